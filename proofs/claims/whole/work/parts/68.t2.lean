theorem mxR_02 {v : Nat → Int32} {b0 m0 : Int32} : (mxR v b0 m0 0).2 = m0 := rfl
theorem held_i {j : Nat} (h : j ≤ 99) : heldR (nI j) 99 = nI j := by
  have e := held_id h
  rw [Int32.add_zero] at e
  exact e
set_option maxRecDepth 20000 in
set_option maxHeartbeats 1000000 in
theorem s_X10_showOfTried (g : pG) {S : pS} (hS : sOk S) (hI : InvR (vw S 10)) (hN : InvN (vw S 10)) : MS g mX10_showOfTried 4 0 0 [.ref 28] (S) (eI (fun x S1 => x = showB (vw (S) 10) ∧ fT LT (S) S1 ∧ sOk S1 ∧ vw S1 10 = vw (S) 10)) := by
  obtain ⟨M0, rfl⟩ := sOk_gs hS
  refine MS.of pn_X10 (Nat.le_of_ble_eq_true rfl) ?_
  refine r_aload_n dX10_showOfTried_0 rfl rfl ?_
  refine r_getR (q := 10) dX10_showOfTried_1 (ci := 10) (kf := 1) rfl (Nat.le_of_ble_eq_true rfl) (by decide) (by decide) rfl fl_X10_15 (Or.inl rfl) rfl ?_
  refine r_callV_eV (ci := 0) dX10_showOfTried_4 (s_X0_makeBill g (CoG (Or.inr (Or.inl rfl))) hI hN) mf_X0_makeBill mi_X0_makeBill se_X0_X0_X0_makeBill ml_X10_47 rfl rfl (Nat.le_of_ble_eq_true rfl) rfl (by decide) rfl (Nat.le_of_ble_eq_true rfl) ⟨(Nat.le_of_ble_eq_true rfl), (Nat.le_of_ble_eq_true rfl)⟩ ⟨(Nat.le_of_ble_eq_true rfl), (Nat.le_of_ble_eq_true rfl)⟩ (fun S_4 q_4 z_4 => ?_)
  obtain ⟨f4, bc4, br4⟩ := q_4
  obtain ⟨Ma, rfl⟩ := sOk_gs (f4.ok hS)
  have e4 : vw (Gs Ma) 10 = vw (Gs M0) 10 := f4.vw (fun c hc => by simp [frl]; omega)
  refine r_aload_n dX10_showOfTried_7 rfl rfl ?_
  refine r_getR (q := 10) dX10_showOfTried_8 (ci := 10) (kf := 1) rfl (Nat.le_of_ble_eq_true rfl) (by decide) (by decide) rfl fl_X10_15 (Or.inl rfl) rfl ?_
  refine r_callV_dI (ci := 0) dX10_showOfTried_11 (s_X0_show g (CoG (Or.inr (Or.inl rfl))) (fun x hx => by rw [show (Gs Ma).2.2.2 (10 + 7) x = _ from bc4 x hx]; exact cst_ok hI x hx)) mf_X0_show mi_X0_show se_X0_X0_X0_show ml_X10_50 rfl rfl (Nat.le_of_ble_eq_true rfl) rfl (by decide) rfl (Nat.le_of_ble_eq_true rfl) ⟨(Nat.le_of_ble_eq_true rfl), (Nat.le_of_ble_eq_true rfl)⟩ ⟨(Nat.le_of_ble_eq_true rfl), (Nat.le_of_ble_eq_true rfl)⟩ ?_
  refine r_iret dX10_showOfTried_14 rfl (Nat.le_refl _) ?_
  (try dsimp only [Gs_M])
  refine ⟨_, rfl, ?_, fT.of (f4.mono (by decide)) e4 hI hN, f4.ok hS, e4⟩
  rw [e4]
  exact showR_cong bc4 8 (Nat.le_refl _)
set_option maxRecDepth 20000 in
set_option maxHeartbeats 1000000 in
theorem s_X10_worstIllness (g : pG) {S : pS} (hS : sOk S) (hI : InvR (vw S 1)) (hN : InvN (vw S 1)) : MS g mX10_worstIllness 5 0 0 [.ref 28] (S) (eI (fun x S1 => x = (worstR (vw (S) 1) (plR (vw (S) 1))).1 ∧ fT LT (S) S1 ∧ sOk S1)) := by
  obtain ⟨M0, rfl⟩ := sOk_gs hS
  obtain ⟨h8, hpl⟩ := hI.pl
  refine MS.of pn_X10 (Nat.le_of_ble_eq_true rfl) ?_
  refine r_aload_n dX10_worstIllness_0 rfl rfl ?_
  refine r_getR (q := 10) dX10_worstIllness_1 (ci := 10) (kf := 1) rfl (Nat.le_of_ble_eq_true rfl) (by decide) (by decide) rfl fl_X10_15 (Or.inl rfl) rfl ?_
  refine r_aload_n dX10_worstIllness_4 rfl rfl ?_
  refine r_getR (q := 1) dX10_worstIllness_5 (ci := 10) (kf := 0) rfl (Nat.le_of_ble_eq_true rfl) (by decide) (by decide) rfl fl_X10_9 (Or.inl rfl) rfl ?_
  refine r_callV_eV (ci := 0) dX10_worstIllness_8 (c_X0_copyFrom g hS hI hN) mf_X0_copyFrom mi_X0_copyFrom se_X0_X0_X0_copyFrom ml_X10_28 rfl rfl (Nat.le_of_ble_eq_true rfl) rfl (by decide) rfl (Nat.le_of_ble_eq_true rfl) ⟨(Nat.le_of_ble_eq_true rfl), (Nat.le_of_ble_eq_true rfl)⟩ ⟨(Nat.le_of_ble_eq_true rfl), (Nat.le_of_ble_eq_true rfl)⟩ (fun S_8 q_8 z_8 => ?_)
  obtain ⟨f8, ok8, v8⟩ := q_8
  obtain ⟨Ma, rfl⟩ := sOk_gs ok8
  refine r_bipush (v := (-3)) dX10_worstIllness_11 (by decide) ?_
  refine r_istore_n dX10_worstIllness_13 rfl (by decide) ?_
  refine r_aload_n dX10_worstIllness_14 rfl rfl ?_
  refine r_callV_eI (ci := 10) dX10_worstIllness_15 (s_X10_showOfTried g ok8 (v8 ▸ hI) (v8 ▸ hN)) mf_X10_showOfTried mi_X10_showOfTried se_X10_X10_X10_showOfTried ml_X10_53 rfl rfl (Nat.le_of_ble_eq_true rfl) rfl (by decide) rfl (Nat.le_of_ble_eq_true rfl) ⟨(Nat.le_of_ble_eq_true rfl), (Nat.le_of_ble_eq_true rfl)⟩ ⟨(Nat.le_of_ble_eq_true rfl), (Nat.le_of_ble_eq_true rfl)⟩ (fun r_15 S_15 q_15 z_15 => ?_)
  obtain ⟨x15, f15, ok15, v15⟩ := q_15
  obtain ⟨Mb, rfl⟩ := sOk_gs ok15
  refine r_istore_n dX10_worstIllness_18 rfl (by decide) ?_
  refine r_iconst (v := 0) dX10_worstIllness_19 (by decide) ?_
  refine r_istore_n dX10_worstIllness_20 rfl (by decide) ?_
  have lp : ∀ (j_ : Nat) (k : Nat) (b t : Int32) (S1 : pS) (ok : sOk S1) (hk : fT LT (Gs M0) S1) (hv : vw S1 10 = vw (Gs M0) 1) (hb : b = (worstR (vw (Gs M0) 1) k).1) (hm : t = (worstR (vw (Gs M0) 1) k).2) (hkp : k ≤ plR (vw (Gs M0) 1)), plR (vw (Gs M0) 1) - k < j_ → PW g mX10_worstIllness (eN g (Gs M0).1 5 0 0 (eI (fun x S1 => x = (worstR (vw (Gs M0) 1) (plR (vw (Gs M0) 1))).1 ∧ fT LT (Gs M0) S1 ∧ sOk S1))) 21 [some (.ref 28), some (.int b), some (.int t), some (.int (nI k)), none] [] (S1) 0 0 := by
    intro j_
    induction j_ with
    | zero => intro k b t S1 ok hk hv hb hm hkp hj; exact absurd hj (Nat.not_lt_zero _)
    | succ j_ ih =>
      intro k b t S1 ok hk hv hb hm hkp hj
      obtain ⟨M, rfl⟩ := sOk_gs ok
      refine r_iload_n dX10_worstIllness_21 rfl rfl ?_
      refine r_aload_n dX10_worstIllness_22 rfl rfl ?_
      refine r_getR (q := 1) dX10_worstIllness_23 (ci := 10) (kf := 0) rfl (Nat.le_of_ble_eq_true rfl) (by decide) (by decide) rfl fl_X10_9 (Or.inl rfl) rfl ?_
      refine r_getI dX10_worstIllness_26 (ci := 0) (kf := 6) rfl (Nat.le_of_ble_eq_true rfl) (by decide) (by decide) rfl fl_X10_62 (Or.inl rfl) ?_
      rw [show (Gs M).2.2.2 1 6 = nI (plR (vw (Gs M0) 1)) by rw [← hpl, ← nowT hk]; rfl]
      refine r_icmp_geN (k) (plR (vw (Gs M0) 1)) (tgt := 87) dX10_worstIllness_29 (by decide) (by omega) (by omega) (fun c_29 => ?_) (fun c_29 => ?_)
      · (try dsimp only [Gs_M] at c_29)
        refine r_iload_n dX10_worstIllness_87 rfl rfl ?_
        refine r_iret dX10_worstIllness_88 rfl (Nat.le_refl _) ?_
        (try dsimp only [Gs_M])
        have ek : k = plR (vw (Gs M0) 1) := by omega
        subst ek
        exact ⟨_, rfl, hb, hk, ok⟩
      · (try dsimp only [Gs_M] at c_29)
        have ei : vw (Gs M0) 1 (16 + 11 * k + 2) = (Gs M).2.2.2 6 k := by rw [← nowT hk]; exact vw_i (by omega)
        refine r_aload_n dX10_worstIllness_32 rfl rfl ?_
        refine r_getR (q := 1) dX10_worstIllness_33 (ci := 10) (kf := 0) rfl (Nat.le_of_ble_eq_true rfl) (by decide) (by decide) rfl fl_X10_9 (Or.inl rfl) rfl ?_
        refine r_getR (q := (1 + 5)) dX10_worstIllness_36 (ci := 0) (kf := 4) rfl (Nat.le_of_ble_eq_true rfl) (by decide) (by decide) rfl fl_X10_65 (Or.inl rfl) (CoG (Or.inl rfl)).2.2.2.2.2.2.2.1 ?_
        refine r_iload_n dX10_worstIllness_39 rfl rfl ?_
        refine r_iald (j := k) dX10_worstIllness_40 (CoG (Or.inl rfl)).2.2.1.2.2.2.2.1 (Co_la5 (CoG (Or.inl rfl))) rfl (by omega) (by decide) ?_
        refine r_if_ne (tgt := 81) dX10_worstIllness_41 (by decide) (fun c_41 => ?_) (fun c_41 => ?_)
        · (try dsimp only [Gs_M] at c_41)
          refine r_iinc (v := nI (k + 1)) dX10_worstIllness_81 rfl (nI_1 _) (by decide) ?_
          refine r_goto (tgt := 21) dX10_worstIllness_84 (by decide) ?_
          obtain ⟨y1, y2⟩ := worstR_n hb hm (fun z => c_41 (ei.symm.trans z.1))
          exact PW.subL (ih (k + 1) _ _ _ ok hk hv y1 y2 (by omega) (by omega)) (by repeat' first | exact True.intro | refine And.intro rfl ?_)
        · (try dsimp only [Gs_M] at c_41)
          refine r_aload_n dX10_worstIllness_44 rfl rfl ?_
          refine r_getR (q := 10) dX10_worstIllness_45 (ci := 10) (kf := 1) rfl (Nat.le_of_ble_eq_true rfl) (by decide) (by decide) rfl fl_X10_15 (Or.inl rfl) rfl ?_
          refine r_getR (q := (10 + 5)) dX10_worstIllness_48 (ci := 0) (kf := 4) rfl (Nat.le_of_ble_eq_true rfl) (by decide) (by decide) rfl fl_X10_65 (Or.inl rfl) (CoG (Or.inr (Or.inl rfl))).2.2.2.2.2.2.2.1 ?_
          refine r_iload_n dX10_worstIllness_51 rfl rfl ?_
          refine r_iconst (v := 1) dX10_worstIllness_52 (by decide) ?_
          refine r_iast (j := k) dX10_worstIllness_53 (CoG (Or.inr (Or.inl rfl))).2.2.1.2.2.2.2.1 (Co_la5 (CoG (Or.inr (Or.inl rfl)))) rfl (by omega) (by decide) ?_
          have v1 : vw (mSet (Gs M) 15 k 1) 10 = upd (vw (Gs M0) 1) (16 + 11 * k + 2) 1 := by rw [show mSet (Gs M) 15 k 1 = mSet (Gs M) (10 + 5) k 1 from rfl, vs_i (by omega), hv]
          refine r_aload_n dX10_worstIllness_54 rfl rfl ?_
          refine r_callV_eI (ci := 10) dX10_worstIllness_55 (s_X10_showOfTried g ok (v1 ▸ upd_inv hI (by omega) (fun k2 h => by omega)) (v1 ▸ hN.ui ⟨1, by omega, rfl⟩)) mf_X10_showOfTried mi_X10_showOfTried se_X10_X10_X10_showOfTried ml_X10_53 rfl rfl (Nat.le_of_ble_eq_true rfl) rfl (by decide) rfl (Nat.le_of_ble_eq_true rfl) ⟨(Nat.le_of_ble_eq_true rfl), (Nat.le_of_ble_eq_true rfl)⟩ ⟨(Nat.le_of_ble_eq_true rfl), (Nat.le_of_ble_eq_true rfl)⟩ (fun r_55 S_55 q_55 z_55 => ?_)
          obtain ⟨x55, f55, ok55, v55⟩ := q_55
          obtain ⟨Mb, rfl⟩ := sOk_gs ok55
          refine r_istore dX10_worstIllness_58 (by decide) ?_
          refine r_aload_n dX10_worstIllness_60 rfl rfl ?_
          refine r_getR (q := 10) dX10_worstIllness_61 (ci := 10) (kf := 1) rfl (Nat.le_of_ble_eq_true rfl) (by decide) (by decide) rfl fl_X10_15 (Or.inl rfl) rfl ?_
          refine r_getR (q := (10 + 5)) dX10_worstIllness_64 (ci := 0) (kf := 4) rfl (Nat.le_of_ble_eq_true rfl) (by decide) (by decide) rfl fl_X10_65 (Or.inl rfl) (CoG (Or.inr (Or.inl rfl))).2.2.2.2.2.2.2.1 ?_
          refine r_iload_n dX10_worstIllness_67 rfl rfl ?_
          refine r_iconst (v := 0) dX10_worstIllness_68 (by decide) ?_
          refine r_iast (j := k) dX10_worstIllness_69 (CoG (Or.inr (Or.inl rfl))).2.2.1.2.2.2.2.1 (Co_la5 (CoG (Or.inr (Or.inl rfl)))) rfl (by omega) (by decide) ?_
          refine r_iload dX10_worstIllness_70 rfl ?_
          refine r_iload_n dX10_worstIllness_72 rfl rfl ?_
          refine r_icmp_ge (tgt := 81) dX10_worstIllness_73 (by decide) (fun c_73 => ?_) (fun c_73 => ?_)
          · (try dsimp only [Gs_M] at c_73)
            refine r_iinc (v := nI (k + 1)) dX10_worstIllness_81 rfl (nI_1 _) (by decide) ?_
            refine r_goto (tgt := 21) dX10_worstIllness_84 (by decide) ?_
            obtain ⟨y1, y2⟩ := worstR_n hb hm (fun z => Int32.not_le.mpr z.2 (by rw [← v1, ← x55]; exact c_73))
            exact PW.subL (ih (k + 1) _ _ _ ok55 (fT.of (((hk.1.set (by decide)).tr f55.1).set (by decide)) (by show vw (mSet (Gs Mb) (10 + 5) k 0) 10 = _; rw [vs_i (by omega), v55, v1, upd_twice, show (0 : Int32) = vw (Gs M0) 1 (16 + 11 * k + 2) from (ei.trans c_41).symm]; exact upd_self) hI hN) (by show vw (mSet (Gs Mb) (10 + 5) k 0) 10 = _; rw [vs_i (by omega), v55, v1, upd_twice, show (0 : Int32) = vw (Gs M0) 1 (16 + 11 * k + 2) from (ei.trans c_41).symm]; exact upd_self) y1 y2 (by omega) (by omega)) (by repeat' first | exact True.intro | refine And.intro rfl ?_)
          · (try dsimp only [Gs_M] at c_73)
            refine r_iload dX10_worstIllness_76 rfl ?_
            refine r_istore_n dX10_worstIllness_78 rfl (by decide) ?_
            refine r_iload_n dX10_worstIllness_79 rfl rfl ?_
            refine r_istore_n dX10_worstIllness_80 rfl (by decide) ?_
            refine r_iinc (v := nI (k + 1)) dX10_worstIllness_81 rfl (nI_1 _) (by decide) ?_
            refine r_goto (tgt := 21) dX10_worstIllness_84 (by decide) ?_
            obtain ⟨y1, y2⟩ := worstR_y hm (ei.trans c_41) (by rw [← v1, ← x55]; exact c_73)
            rw [x55, v1]
            exact PW.subL (ih (k + 1) _ _ _ ok55 (fT.of (((hk.1.set (by decide)).tr f55.1).set (by decide)) (by show vw (mSet (Gs Mb) (10 + 5) k 0) 10 = _; rw [vs_i (by omega), v55, v1, upd_twice, show (0 : Int32) = vw (Gs M0) 1 (16 + 11 * k + 2) from (ei.trans c_41).symm]; exact upd_self) hI hN) (by show vw (mSet (Gs Mb) (10 + 5) k 0) 10 = _; rw [vs_i (by omega), v55, v1, upd_twice, show (0 : Int32) = vw (Gs M0) 1 (16 + 11 * k + 2) from (ei.trans c_41).symm]; exact upd_self) y1 y2 (by omega) (by omega)) (by repeat' first | exact True.intro | refine And.intro rfl ?_)
  exact PW.subL (lp (plR (vw (Gs M0) 1) + 1) 0 (-3) _ _ ok15 (f8.tr f15) (v15.trans v8) rfl (x15.trans (by rw [v8]; rfl)) (by omega) (by omega)) (by repeat' first | exact True.intro | refine And.intro rfl ?_)
set_option maxRecDepth 20000 in
set_option maxHeartbeats 1000000 in
theorem s_X10_bestKind (g : pG) {S : pS} (hS : sOk S) (hI : InvR (vw S 1)) (hN : InvN (vw S 1)) (k n : Nat) (hk8 : k < plR (vw S 1)) (hn : n < 1000) : MS g mX10_bestKind 6 0 0 [.ref 28, .int (nI k), .int (nI n)] (S) (eI (fun x S1 => x = (mxR (fun kd => goR (upd (vw (S) 1) (16 + 11 * k + 0) (nI kd)) n 7) (-3) (-1) 6).1 ∧ fT LT (S) S1 ∧ sOk S1)) := by
  obtain ⟨M0, rfl⟩ := sOk_gs hS
  obtain ⟨h8, hpl⟩ := hI.pl
  refine MS.of pn_X10 (Nat.le_of_ble_eq_true rfl) ?_
  refine r_bipush (v := (-3)) dX10_bestKind_0 (by decide) ?_
  refine r_istore_n dX10_bestKind_2 rfl (by decide) ?_
  refine r_iconst (v := (-1)) dX10_bestKind_3 (by decide) ?_
  refine r_istore dX10_bestKind_4 (by decide) ?_
  refine r_iconst (v := 0) dX10_bestKind_6 (by decide) ?_
  refine r_istore dX10_bestKind_7 (by decide) ?_
  have lp : ∀ (j_ : Nat) (j : Nat) (b t : Int32) (S1 : pS) (ok : sOk S1) (hk : fT LT (Gs M0) S1) (hb : b = (mxR (fun kd => goR (upd (vw (Gs M0) 1) (16 + 11 * k + 0) (nI kd)) n 7) (-3) (-1) j).1) (hm : t = (mxR (fun kd => goR (upd (vw (Gs M0) 1) (16 + 11 * k + 0) (nI kd)) n 7) (-3) (-1) j).2) (hj8 : j ≤ 6), 6 - j < j_ → PW g mX10_bestKind (eN g (Gs M0).1 6 0 0 (eI (fun x S1 => x = (mxR (fun kd => goR (upd (vw (Gs M0) 1) (16 + 11 * k + 0) (nI kd)) n 7) (-3) (-1) 6).1 ∧ fT LT (Gs M0) S1 ∧ sOk S1))) 9 [some (.ref 28), some (.int (nI k)), some (.int (nI n)), some (.int b), some (.int t), some (.int (nI j)), none] [] (S1) 0 0 := by
    intro j_
    induction j_ with
    | zero => intro j b t S1 ok hk hb hm hj8 hj; exact absurd hj (Nat.not_lt_zero _)
    | succ j_ ih =>
      intro j b t S1 ok hk hb hm hj8 hj
      obtain ⟨M, rfl⟩ := sOk_gs ok
      refine r_iload dX10_bestKind_9 rfl ?_
      refine r_bipush (v := 6) dX10_bestKind_11 (by decide) ?_
      refine r_icmp_geN (j) (6) (tgt := 65) dX10_bestKind_13 (by decide) (by omega) (by omega) (fun c_13 => ?_) (fun c_13 => ?_)
      · (try dsimp only [Gs_M] at c_13)
        refine r_iload_n dX10_bestKind_65 rfl rfl ?_
        refine r_iret dX10_bestKind_66 rfl (Nat.le_refl _) ?_
        (try dsimp only [Gs_M])
        have ej : j = 6 := by omega
        subst ej
        exact ⟨_, rfl, hb, hk, ok⟩
      · (try dsimp only [Gs_M] at c_13)
        refine r_aload_n dX10_bestKind_16 rfl rfl ?_
        refine r_getR (q := 10) dX10_bestKind_17 (ci := 10) (kf := 1) rfl (Nat.le_of_ble_eq_true rfl) (by decide) (by decide) rfl fl_X10_15 (Or.inl rfl) rfl ?_
        refine r_aload_n dX10_bestKind_20 rfl rfl ?_
        refine r_getR (q := 1) dX10_bestKind_21 (ci := 10) (kf := 0) rfl (Nat.le_of_ble_eq_true rfl) (by decide) (by decide) rfl fl_X10_9 (Or.inl rfl) rfl ?_
        refine r_callV_eV (ci := 0) dX10_bestKind_24 (c_X0_copyFrom g ok (by rw [nowT hk]; exact hI) (by rw [nowT hk]; exact hN)) mf_X0_copyFrom mi_X0_copyFrom se_X0_X0_X0_copyFrom ml_X10_28 rfl rfl (Nat.le_of_ble_eq_true rfl) rfl (by decide) rfl (Nat.le_of_ble_eq_true rfl) ⟨(Nat.le_of_ble_eq_true rfl), (Nat.le_of_ble_eq_true rfl)⟩ ⟨(Nat.le_of_ble_eq_true rfl), (Nat.le_of_ble_eq_true rfl)⟩ (fun S_24 q_24 z_24 => ?_)
        obtain ⟨f24, ok24, v24⟩ := q_24
        obtain ⟨Ma, rfl⟩ := sOk_gs ok24
        have v24 : vw (Gs Ma) 10 = vw (Gs M0) 1 := v24.trans (nowT hk)
        refine r_aload_n dX10_bestKind_27 rfl rfl ?_
        refine r_getR (q := 10) dX10_bestKind_28 (ci := 10) (kf := 1) rfl (Nat.le_of_ble_eq_true rfl) (by decide) (by decide) rfl fl_X10_15 (Or.inl rfl) rfl ?_
        refine r_getR (q := (10 + 3)) dX10_bestKind_31 (ci := 0) (kf := 2) rfl (Nat.le_of_ble_eq_true rfl) (by decide) (by decide) rfl fl_X10_68 (Or.inl rfl) (CoG (Or.inr (Or.inl rfl))).2.2.2.2.2.1 ?_
        refine r_iload_n dX10_bestKind_34 rfl rfl ?_
        refine r_iload dX10_bestKind_35 rfl ?_
        refine r_iast (j := k) dX10_bestKind_37 (CoG (Or.inr (Or.inl rfl))).2.2.1.2.2.1 (Co_la3 (CoG (Or.inr (Or.inl rfl)))) rfl (by omega) (by decide) ?_
        have v1 : vw (mSet (Gs Ma) 13 k (nI j)) 10 = upd (vw (Gs M0) 1) (16 + 11 * k + 0) (nI j) := by rw [show mSet (Gs Ma) 13 k (nI j) = mSet (Gs Ma) (10 + 3) k (nI j) from rfl, vs_k (by omega), v24]
        have okp : sOk (mSet (Gs Ma) 13 k (nI j)) := ok24
        refine r_aload_n dX10_bestKind_38 rfl rfl ?_
        refine r_iload_n dX10_bestKind_39 rfl rfl ?_
        refine r_callV_eI (ci := 10) dX10_bestKind_40 (s_X10_takeFor g okp (v1 ▸ upd_inv hI (by omega) (fun k2 h => by omega)) (v1 ▸ hN.uk ⟨j, by omega, rfl⟩) (n) (by omega)) mf_X10_takeFor mi_X10_takeFor se_X10_X10_X10_takeFor ml_X10_32 rfl rfl (Nat.le_of_ble_eq_true rfl) rfl (by decide) rfl (Nat.le_of_ble_eq_true rfl) ⟨(Nat.le_of_ble_eq_true rfl), (Nat.le_of_ble_eq_true rfl)⟩ ⟨(Nat.le_of_ble_eq_true rfl), (Nat.le_of_ble_eq_true rfl)⟩ (fun r_40 S_40 q_40 z_40 => ?_)
        obtain ⟨x40, f40, ok40, v40⟩ := q_40
        rw [v1] at x40
        refine r_istore dX10_bestKind_43 (by decide) ?_
        refine r_iload dX10_bestKind_45 rfl ?_
        refine r_iload dX10_bestKind_47 rfl ?_
        refine r_icmp_le (tgt := 59) dX10_bestKind_49 (by decide) (fun c_49 => ?_) (fun c_49 => ?_)
        · (try dsimp only [Gs_M] at c_49)
          refine r_iinc (v := nI (j + 1)) dX10_bestKind_59 rfl (nI_1 _) (by decide) ?_
          refine r_goto (tgt := 9) dX10_bestKind_62 (by decide) ?_
          obtain ⟨y1, y2⟩ := mxR_n (v := (fun kd => goR (upd (vw (Gs M0) 1) (16 + 11 * k + 0) (nI kd)) n 7)) hb hm (by rw [← x40]; exact c_49)
          exact PW.subL (ih (j + 1) _ _ _ ok40 ((fT.of ((hk.1.tr f24.1).set (by decide)) v1 (upd_inv hI (by omega) (fun k2 h => by omega)) (hN.uk ⟨j, by omega, rfl⟩)).tr f40) y1 y2 (by omega) (by omega)) (by repeat' first | exact True.intro | refine And.intro rfl ?_)
        · (try dsimp only [Gs_M] at c_49)
          refine r_iload dX10_bestKind_52 rfl ?_
          refine r_istore dX10_bestKind_54 (by decide) ?_
          refine r_iload dX10_bestKind_56 rfl ?_
          refine r_istore_n dX10_bestKind_58 rfl (by decide) ?_
          refine r_iinc (v := nI (j + 1)) dX10_bestKind_59 rfl (nI_1 _) (by decide) ?_
          refine r_goto (tgt := 9) dX10_bestKind_62 (by decide) ?_
          obtain ⟨y1, y2⟩ := mxR_y (v := (fun kd => goR (upd (vw (Gs M0) 1) (16 + 11 * k + 0) (nI kd)) n 7)) hm (by rw [← x40]; exact c_49)
          rw [x40]
          exact PW.subL (ih (j + 1) _ _ _ ok40 ((fT.of ((hk.1.tr f24.1).set (by decide)) v1 (upd_inv hI (by omega) (fun k2 h => by omega)) (hN.uk ⟨j, by omega, rfl⟩)).tr f40) y1 y2 (by omega) (by omega)) (by repeat' first | exact True.intro | refine And.intro rfl ?_)
  exact PW.subL (lp 7 0 _ _ _ hS fT.rf rfl rfl (by omega) (by omega)) (by repeat' first | exact True.intro | refine And.intro rfl ?_)
set_option maxRecDepth 20000 in
set_option maxHeartbeats 1000000 in
theorem s_X10_bestLearner (g : pG) {S : pS} (hS : sOk S) (hI : InvR (vw S 1)) (hN : InvN (vw S 1)) (p n : Nat) (hp : p < 8) (hn : n < 1000) : MS g mX10_bestLearner 6 0 0 [.ref 28, .int (nI p), .int (nI n)] (S) (eI (fun x S1 => x = (mxR (fun k => goR (upd (vw (S) 1) (16 + 11 * k + (3 + p)) 99) n 7) (-3) (goR (vw (S) 1) n 7) (plR (vw (S) 1))).1 ∧ fT LT (S) S1 ∧ sOk S1)) := by
  obtain ⟨M0, rfl⟩ := sOk_gs hS
  obtain ⟨h8, hpl⟩ := hI.pl
  refine MS.of pn_X10 (Nat.le_of_ble_eq_true rfl) ?_
  refine r_bipush (v := (-3)) dX10_bestLearner_0 (by decide) ?_
  refine r_istore_n dX10_bestLearner_2 rfl (by decide) ?_
  refine r_aload_n dX10_bestLearner_3 rfl rfl ?_
  refine r_getR (q := 10) dX10_bestLearner_4 (ci := 10) (kf := 1) rfl (Nat.le_of_ble_eq_true rfl) (by decide) (by decide) rfl fl_X10_15 (Or.inl rfl) rfl ?_
  refine r_aload_n dX10_bestLearner_7 rfl rfl ?_
  refine r_getR (q := 1) dX10_bestLearner_8 (ci := 10) (kf := 0) rfl (Nat.le_of_ble_eq_true rfl) (by decide) (by decide) rfl fl_X10_9 (Or.inl rfl) rfl ?_
  refine r_callV_eV (ci := 0) dX10_bestLearner_11 (c_X0_copyFrom g hS hI hN) mf_X0_copyFrom mi_X0_copyFrom se_X0_X0_X0_copyFrom ml_X10_28 rfl rfl (Nat.le_of_ble_eq_true rfl) rfl (by decide) rfl (Nat.le_of_ble_eq_true rfl) ⟨(Nat.le_of_ble_eq_true rfl), (Nat.le_of_ble_eq_true rfl)⟩ ⟨(Nat.le_of_ble_eq_true rfl), (Nat.le_of_ble_eq_true rfl)⟩ (fun S_11 q_11 z_11 => ?_)
  obtain ⟨f11, ok11, v11⟩ := q_11
  obtain ⟨Ma, rfl⟩ := sOk_gs ok11
  refine r_aload_n dX10_bestLearner_14 rfl rfl ?_
  refine r_iload_n dX10_bestLearner_15 rfl rfl ?_
  refine r_callV_eI (ci := 10) dX10_bestLearner_16 (s_X10_takeFor g ok11 (v11 ▸ hI) (v11 ▸ hN) (n) (by omega)) mf_X10_takeFor mi_X10_takeFor se_X10_X10_X10_takeFor ml_X10_32 rfl rfl (Nat.le_of_ble_eq_true rfl) rfl (by decide) rfl (Nat.le_of_ble_eq_true rfl) ⟨(Nat.le_of_ble_eq_true rfl), (Nat.le_of_ble_eq_true rfl)⟩ ⟨(Nat.le_of_ble_eq_true rfl), (Nat.le_of_ble_eq_true rfl)⟩ (fun r_16 S_16 q_16 z_16 => ?_)
  obtain ⟨x16, f16, ok16, v16⟩ := q_16
  obtain ⟨Mb, rfl⟩ := sOk_gs ok16
  refine r_istore dX10_bestLearner_19 (by decide) ?_
  refine r_iconst (v := 0) dX10_bestLearner_21 (by decide) ?_
  refine r_istore dX10_bestLearner_22 (by decide) ?_
  have lp : ∀ (j_ : Nat) (j : Nat) (b t : Int32) (S1 : pS) (ok : sOk S1) (hk : fT LT (Gs M0) S1) (hb : b = (mxR (fun k => goR (upd (vw (Gs M0) 1) (16 + 11 * k + (3 + p)) 99) n 7) (-3) (goR (vw (Gs M0) 1) n 7) j).1) (hm : t = (mxR (fun k => goR (upd (vw (Gs M0) 1) (16 + 11 * k + (3 + p)) 99) n 7) (-3) (goR (vw (Gs M0) 1) n 7) j).2) (hj8 : j ≤ plR (vw (Gs M0) 1)), plR (vw (Gs M0) 1) - j < j_ → PW g mX10_bestLearner (eN g (Gs M0).1 6 0 0 (eI (fun x S1 => x = (mxR (fun k => goR (upd (vw (Gs M0) 1) (16 + 11 * k + (3 + p)) 99) n 7) (-3) (goR (vw (Gs M0) 1) n 7) (plR (vw (Gs M0) 1))).1 ∧ fT LT (Gs M0) S1 ∧ sOk S1))) 24 [some (.ref 28), some (.int (nI p)), some (.int (nI n)), some (.int b), some (.int t), some (.int (nI j)), none] [] (S1) 0 0 := by
    intro j_
    induction j_ with
    | zero => intro j b t S1 ok hk hb hm hj8 hj; exact absurd hj (Nat.not_lt_zero _)
    | succ j_ ih =>
      intro j b t S1 ok hk hb hm hj8 hj
      obtain ⟨M, rfl⟩ := sOk_gs ok
      refine r_iload dX10_bestLearner_24 rfl ?_
      refine r_aload_n dX10_bestLearner_26 rfl rfl ?_
      refine r_getR (q := 1) dX10_bestLearner_27 (ci := 10) (kf := 0) rfl (Nat.le_of_ble_eq_true rfl) (by decide) (by decide) rfl fl_X10_9 (Or.inl rfl) rfl ?_
      refine r_getI dX10_bestLearner_30 (ci := 0) (kf := 6) rfl (Nat.le_of_ble_eq_true rfl) (by decide) (by decide) rfl fl_X10_62 (Or.inl rfl) ?_
      rw [show (Gs M).2.2.2 1 6 = nI (plR (vw (Gs M0) 1)) by rw [← hpl, ← nowT hk]; rfl]
      refine r_icmp_geN (j) (plR (vw (Gs M0) 1)) (tgt := 86) dX10_bestLearner_33 (by decide) (by omega) (by omega) (fun c_33 => ?_) (fun c_33 => ?_)
      · (try dsimp only [Gs_M] at c_33)
        refine r_iload_n dX10_bestLearner_86 rfl rfl ?_
        refine r_iret dX10_bestLearner_87 rfl (Nat.le_refl _) ?_
        (try dsimp only [Gs_M])
        have ej : j = plR (vw (Gs M0) 1) := by omega
        subst ej
        exact ⟨_, rfl, hb, hk, ok⟩
      · (try dsimp only [Gs_M] at c_33)
        refine r_aload_n dX10_bestLearner_36 rfl rfl ?_
        refine r_getR (q := 10) dX10_bestLearner_37 (ci := 10) (kf := 1) rfl (Nat.le_of_ble_eq_true rfl) (by decide) (by decide) rfl fl_X10_15 (Or.inl rfl) rfl ?_
        refine r_aload_n dX10_bestLearner_40 rfl rfl ?_
        refine r_getR (q := 1) dX10_bestLearner_41 (ci := 10) (kf := 0) rfl (Nat.le_of_ble_eq_true rfl) (by decide) (by decide) rfl fl_X10_9 (Or.inl rfl) rfl ?_
        refine r_callV_eV (ci := 0) dX10_bestLearner_44 (c_X0_copyFrom g ok (by rw [nowT hk]; exact hI) (by rw [nowT hk]; exact hN)) mf_X0_copyFrom mi_X0_copyFrom se_X0_X0_X0_copyFrom ml_X10_28 rfl rfl (Nat.le_of_ble_eq_true rfl) rfl (by decide) rfl (Nat.le_of_ble_eq_true rfl) ⟨(Nat.le_of_ble_eq_true rfl), (Nat.le_of_ble_eq_true rfl)⟩ ⟨(Nat.le_of_ble_eq_true rfl), (Nat.le_of_ble_eq_true rfl)⟩ (fun S_44 q_44 z_44 => ?_)
        obtain ⟨f44, ok44, v44⟩ := q_44
        obtain ⟨Ma, rfl⟩ := sOk_gs ok44
        have v44 : vw (Gs Ma) 10 = vw (Gs M0) 1 := v44.trans (nowT hk)
        refine r_aload_n dX10_bestLearner_47 rfl rfl ?_
        refine r_getR (q := 10) dX10_bestLearner_48 (ci := 10) (kf := 1) rfl (Nat.le_of_ble_eq_true rfl) (by decide) (by decide) rfl fl_X10_15 (Or.inl rfl) rfl ?_
        refine r_iload dX10_bestLearner_51 rfl ?_
        refine r_iload_n dX10_bestLearner_53 rfl rfl ?_
        refine r_bipush (v := 99) dX10_bestLearner_54 (by decide) ?_
        refine r_callV_dV (ci := 0) dX10_bestLearner_56 (s_X0_learnTo g (CoG (Or.inr (Or.inl rfl))) (j) (p) (by omega) (by omega) _) mf_X0_learnTo mi_X0_learnTo se_X0_X0_X0_learnTo ml_X10_71 rfl rfl (Nat.le_of_ble_eq_true rfl) rfl (by decide) rfl (Nat.le_of_ble_eq_true rfl) ⟨(Nat.le_of_ble_eq_true rfl), (Nat.le_of_ble_eq_true rfl)⟩ ⟨(Nat.le_of_ble_eq_true rfl), (Nat.le_of_ble_eq_true rfl)⟩ ?_
        have v1 : vw (mSet (Gs Ma) (10 + 6) (j * 8 + p) (heldR 99 99)) 10 = upd (vw (Gs M0) 1) (16 + 11 * j + (3 + p)) 99 := by rw [vs_n (by omega) hp, v44]; rfl
        have okp : sOk (mSet (Gs Ma) (10 + 6) (j * 8 + p) (heldR 99 99)) := ok44
        refine r_aload_n dX10_bestLearner_59 rfl rfl ?_
        refine r_iload_n dX10_bestLearner_60 rfl rfl ?_
        refine r_callV_eI (ci := 10) dX10_bestLearner_61 (s_X10_takeFor g okp (v1 ▸ upd_inv hI (by omega) (fun k2 h => by omega)) (v1 ▸ hN.un hp ⟨99, by omega, rfl⟩) (n) (by omega)) mf_X10_takeFor mi_X10_takeFor se_X10_X10_X10_takeFor ml_X10_32 rfl rfl (Nat.le_of_ble_eq_true rfl) rfl (by decide) rfl (Nat.le_of_ble_eq_true rfl) ⟨(Nat.le_of_ble_eq_true rfl), (Nat.le_of_ble_eq_true rfl)⟩ ⟨(Nat.le_of_ble_eq_true rfl), (Nat.le_of_ble_eq_true rfl)⟩ (fun r_61 S_61 q_61 z_61 => ?_)
        obtain ⟨x61, f61, ok61, v61⟩ := q_61
        rw [v1] at x61
        refine r_istore dX10_bestLearner_64 (by decide) ?_
        refine r_iload dX10_bestLearner_66 rfl ?_
        refine r_iload dX10_bestLearner_68 rfl ?_
        refine r_icmp_le (tgt := 80) dX10_bestLearner_70 (by decide) (fun c_70 => ?_) (fun c_70 => ?_)
        · (try dsimp only [Gs_M] at c_70)
          refine r_iinc (v := nI (j + 1)) dX10_bestLearner_80 rfl (nI_1 _) (by decide) ?_
          refine r_goto (tgt := 24) dX10_bestLearner_83 (by decide) ?_
          obtain ⟨y1, y2⟩ := mxR_n (v := (fun k => goR (upd (vw (Gs M0) 1) (16 + 11 * k + (3 + p)) 99) n 7)) hb hm (by rw [← x61]; exact c_70)
          exact PW.subL (ih (j + 1) _ _ _ ok61 ((fT.of ((hk.1.tr f44.1).set (by decide)) v1 (upd_inv hI (by omega) (fun k2 h => by omega)) (hN.un hp ⟨99, by omega, rfl⟩)).tr f61) y1 y2 (by omega) (by omega)) (by repeat' first | exact True.intro | refine And.intro rfl ?_)
        · (try dsimp only [Gs_M] at c_70)
          refine r_iload dX10_bestLearner_73 rfl ?_
          refine r_istore dX10_bestLearner_75 (by decide) ?_
          refine r_iload dX10_bestLearner_77 rfl ?_
          refine r_istore_n dX10_bestLearner_79 rfl (by decide) ?_
          refine r_iinc (v := nI (j + 1)) dX10_bestLearner_80 rfl (nI_1 _) (by decide) ?_
          refine r_goto (tgt := 24) dX10_bestLearner_83 (by decide) ?_
          obtain ⟨y1, y2⟩ := mxR_y (v := (fun k => goR (upd (vw (Gs M0) 1) (16 + 11 * k + (3 + p)) 99) n 7)) hm (by rw [← x61]; exact c_70)
          rw [x61]
          exact PW.subL (ih (j + 1) _ _ _ ok61 ((fT.of ((hk.1.tr f44.1).set (by decide)) v1 (upd_inv hI (by omega) (fun k2 h => by omega)) (hN.un hp ⟨99, by omega, rfl⟩)).tr f61) y1 y2 (by omega) (by omega)) (by repeat' first | exact True.intro | refine And.intro rfl ?_)
  exact PW.subL (lp (plR (vw (Gs M0) 1) + 1) 0 _ _ _ ok16 (f11.tr f16) rfl (x16.trans (by rw [v11]; exact mxR_02.symm)) (by omega) (by omega)) (by repeat' first | exact True.intro | refine And.intro rfl ?_)
set_option maxRecDepth 20000 in
set_option maxHeartbeats 1000000 in
theorem s_X10_leastKnowing (g : pG) {S : pS} (hS : sOk S) (hI : InvR (vw S 1)) (hN : InvN (vw S 1)) (k p : Nat) (hk8 : k < plR (vw S 1)) (hp : p < 8) : MS g mX10_leastKnowing 4 0 0 [.ref 28, .int (nI k), .int (nI p)] (S) (eI (fun x S1 => x = fwR (fun v => decide (rol (upd (vw (S) 1) (16 + 11 * k + (3 + p)) (nI v)) k = nI p)) 100 ∧ fT LT (S) S1 ∧ sOk S1)) := by
  obtain ⟨M0, rfl⟩ := sOk_gs hS
  obtain ⟨h8, hpl⟩ := hI.pl
  refine MS.of pn_X10 (Nat.le_of_ble_eq_true rfl) ?_
  refine r_aload_n dX10_leastKnowing_0 rfl rfl ?_
  refine r_getR (q := 10) dX10_leastKnowing_1 (ci := 10) (kf := 1) rfl (Nat.le_of_ble_eq_true rfl) (by decide) (by decide) rfl fl_X10_15 (Or.inl rfl) rfl ?_
  refine r_aload_n dX10_leastKnowing_4 rfl rfl ?_
  refine r_getR (q := 1) dX10_leastKnowing_5 (ci := 10) (kf := 0) rfl (Nat.le_of_ble_eq_true rfl) (by decide) (by decide) rfl fl_X10_9 (Or.inl rfl) rfl ?_
  refine r_callV_eV (ci := 0) dX10_leastKnowing_8 (c_X0_copyFrom g hS hI hN) mf_X0_copyFrom mi_X0_copyFrom se_X0_X0_X0_copyFrom ml_X10_28 rfl rfl (Nat.le_of_ble_eq_true rfl) rfl (by decide) rfl (Nat.le_of_ble_eq_true rfl) ⟨(Nat.le_of_ble_eq_true rfl), (Nat.le_of_ble_eq_true rfl)⟩ ⟨(Nat.le_of_ble_eq_true rfl), (Nat.le_of_ble_eq_true rfl)⟩ (fun S_8 q_8 z_8 => ?_)
  obtain ⟨f8, ok8, v8⟩ := q_8
  obtain ⟨Ma, rfl⟩ := sOk_gs ok8
  refine r_iconst (v := 0) dX10_leastKnowing_11 (by decide) ?_
  refine r_istore_n dX10_leastKnowing_12 rfl (by decide) ?_
  have lp : ∀ (j_ : Nat) (v : Nat) (S1 : pS) (ok : sOk S1) (hk : fT LT (Gs M0) S1) (hv : ∃ w, vw S1 10 = upd (vw (Gs M0) 1) (16 + 11 * k + (3 + p)) w) (hf : fwR (fun v => decide (rol (upd (vw (Gs M0) 1) (16 + 11 * k + (3 + p)) (nI v)) k = nI p)) v = -3) (hv100 : v ≤ 100), 100 - v < j_ → PW g mX10_leastKnowing (eN g (Gs M0).1 4 0 0 (eI (fun x S1 => x = fwR (fun v => decide (rol (upd (vw (Gs M0) 1) (16 + 11 * k + (3 + p)) (nI v)) k = nI p)) 100 ∧ fT LT (Gs M0) S1 ∧ sOk S1))) 13 [some (.ref 28), some (.int (nI k)), some (.int (nI p)), some (.int (nI v))] [] (S1) 0 0 := by
    intro j_
    induction j_ with
    | zero => intro v S1 ok hk hv hf hv100 hj; exact absurd hj (Nat.not_lt_zero _)
    | succ j_ ih =>
      intro v S1 ok hk hv hf hv100 hj
      obtain ⟨M, rfl⟩ := sOk_gs ok
      obtain ⟨w, hv⟩ := hv
      refine r_iload_n dX10_leastKnowing_13 rfl rfl ?_
      refine r_bipush (v := 99) dX10_leastKnowing_14 (by decide) ?_
      refine r_icmp_gtN (v) (99) (tgt := 57) dX10_leastKnowing_16 (by decide) (by omega) (by omega) (fun c_16 => ?_) (fun c_16 => ?_)
      · (try dsimp only [Gs_M] at c_16)
        refine r_bipush (v := (-3)) dX10_leastKnowing_57 (by decide) ?_
        refine r_iret dX10_leastKnowing_59 rfl (Nat.le_refl _) ?_
        (try dsimp only [Gs_M])
        have e1 : v = 100 := by omega
        subst e1
        exact ⟨_, rfl, hf.symm, hk, ok⟩
      · (try dsimp only [Gs_M] at c_16)
        refine r_aload_n dX10_leastKnowing_19 rfl rfl ?_
        refine r_getR (q := 10) dX10_leastKnowing_20 (ci := 10) (kf := 1) rfl (Nat.le_of_ble_eq_true rfl) (by decide) (by decide) rfl fl_X10_15 (Or.inl rfl) rfl ?_
        refine r_iload_n dX10_leastKnowing_23 rfl rfl ?_
        refine r_iload_n dX10_leastKnowing_24 rfl rfl ?_
        refine r_iload_n dX10_leastKnowing_25 rfl rfl ?_
        refine r_callV_dV (ci := 0) dX10_leastKnowing_26 (s_X0_learnTo g (CoG (Or.inr (Or.inl rfl))) (k) (p) (by omega) (by omega) _) mf_X0_learnTo mi_X0_learnTo se_X0_X0_X0_learnTo ml_X10_71 rfl rfl (Nat.le_of_ble_eq_true rfl) rfl (by decide) rfl (Nat.le_of_ble_eq_true rfl) ⟨(Nat.le_of_ble_eq_true rfl), (Nat.le_of_ble_eq_true rfl)⟩ ⟨(Nat.le_of_ble_eq_true rfl), (Nat.le_of_ble_eq_true rfl)⟩ ?_
        have v1 : vw (mSet (Gs M) (10 + 6) (k * 8 + p) (heldR (nI v) 99)) 10 = upd (vw (Gs M0) 1) (16 + 11 * k + (3 + p)) (nI v) := by rw [vs_n (by omega) hp, hv, upd_twice, held_i (by omega)]
        refine r_aload_n dX10_leastKnowing_29 rfl rfl ?_
        refine r_getR (q := 10) dX10_leastKnowing_30 (ci := 10) (kf := 1) rfl (Nat.le_of_ble_eq_true rfl) (by decide) (by decide) rfl fl_X10_15 (Or.inl rfl) rfl ?_
        refine r_callV_eV (ci := 0) dX10_leastKnowing_33 (s_X0_makeBill g (CoG (Or.inr (Or.inl rfl))) (v1 ▸ upd_inv hI (by omega) (fun k2 h => by omega)) (v1 ▸ hN.un hp ⟨v, by omega, rfl⟩)) mf_X0_makeBill mi_X0_makeBill se_X0_X0_X0_makeBill ml_X10_47 rfl rfl (Nat.le_of_ble_eq_true rfl) rfl (by decide) rfl (Nat.le_of_ble_eq_true rfl) ⟨(Nat.le_of_ble_eq_true rfl), (Nat.le_of_ble_eq_true rfl)⟩ ⟨(Nat.le_of_ble_eq_true rfl), (Nat.le_of_ble_eq_true rfl)⟩ (fun S_33 q_33 z_33 => ?_)
        obtain ⟨f33, bc33, br33⟩ := q_33
        have ok33 := f33.ok (show sOk (mSet (Gs M) (10 + 6) (k * 8 + p) (heldR (nI v) 99)) from ok)
        obtain ⟨Mb, rfl⟩ := sOk_gs ok33
        have v33 : vw (Gs Mb) 10 = _ := (f33.vw (fun c hc => by simp [frl]; omega)).trans v1
        have hk33 : fT LT (Gs M0) (Gs Mb) := fT.of ((hk.1.set (by decide)).tr (f33.mono (by decide))) v33 (upd_inv hI (by omega) (fun k2 h => by omega)) (hN.un hp ⟨v, by omega, rfl⟩)
        refine r_aload_n dX10_leastKnowing_36 rfl rfl ?_
        refine r_getR (q := 10) dX10_leastKnowing_37 (ci := 10) (kf := 1) rfl (Nat.le_of_ble_eq_true rfl) (by decide) (by decide) rfl fl_X10_15 (Or.inl rfl) rfl ?_
        refine r_getR (q := (10 + 8)) dX10_leastKnowing_40 (ci := 0) (kf := 11) rfl (Nat.le_of_ble_eq_true rfl) (by decide) (by decide) rfl fl_X10_40 (Or.inl rfl) (CoG (Or.inr (Or.inl rfl))).2.2.2.2.2.2.2.2.2.2 ?_
        refine r_iload_n dX10_leastKnowing_43 rfl rfl ?_
        refine r_iald (j := k) dX10_leastKnowing_44 (CoG (Or.inr (Or.inl rfl))).2.2.1.2.2.2.2.2.2.2 (Co_la8 (CoG (Or.inr (Or.inl rfl)))) rfl (by omega) (by decide) ?_
        have er : (Gs Mb).2.2.2 (10 + 8) k = rol (upd (vw (Gs M0) 1) (16 + 11 * k + (3 + p)) (nI v)) k := by rw [← v1]; exact br33 k (by rw [v1, upd_pl (by omega)]; exact hk8)
        refine r_iload_n dX10_leastKnowing_45 rfl rfl ?_
        refine r_icmp_ne (tgt := 51) dX10_leastKnowing_46 (by decide) (fun c_46 => ?_) (fun c_46 => ?_)
        · (try dsimp only [Gs_M] at c_46)
          refine r_iinc (v := nI (v + 1)) dX10_leastKnowing_51 rfl (nI_1 _) (by decide) ?_
          refine r_goto (tgt := 13) dX10_leastKnowing_54 (by decide) ?_
          exact PW.subL (ih (v + 1) _ ok33 hk33 ⟨_, v33⟩ (fwR_n (ok := (fun v => decide (rol (upd (vw (Gs M0) 1) (16 + 11 * k + (3 + p)) (nI v)) k = nI p))) hf (fun z => c_46 (er.trans (of_decide_eq_true z)))).symm (by omega) (by omega)) (by repeat' first | exact True.intro | refine And.intro rfl ?_)
        · (try dsimp only [Gs_M] at c_46)
          refine r_iload_n dX10_leastKnowing_49 rfl rfl ?_
          refine r_iret dX10_leastKnowing_50 rfl (Nat.le_refl _) ?_
          (try dsimp only [Gs_M])
          refine ⟨_, rfl, ?_, hk33, ok33⟩
          exact fwR_end (ok := (fun v => decide (rol (upd (vw (Gs M0) 1) (16 + 11 * k + (3 + p)) (nI v)) k = nI p))) (fwR_y hf (decide_eq_true (er.symm.trans c_46))) (nI_ne3 (by omega)) (by omega)
  exact PW.subL (lp 101 0 _ ok8 f8 ⟨_, v8.trans upd_self.symm⟩ rfl (by omega) (by omega)) (by repeat' first | exact True.intro | refine And.intro rfl ?_)
