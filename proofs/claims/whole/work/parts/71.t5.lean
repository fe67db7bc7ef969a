def hmC (ok : Nat → Bool) : Nat → Int32
  | 0 => 0
  | v + 1 => hmC ok v + (if ok v = true then 1 else 0)
set_option maxRecDepth 20000 in
set_option maxHeartbeats 1000000 in
theorem s_X10_howManyFit (g : pG) {S : pS} (hS : sOk S) (hI : InvR (vw S 1)) (hN : InvN (vw S 1)) (j k n : Nat) (hj4 : j < 4) (hk8 : k < plR (vw S 1)) (hn : n ≤ 40) (hz : S.2.2.2 (34 + 2 * j) 1 = nI n) : MS g mX10_howManyFit 6 0 0 [.ref 28, .ref (34 + 2 * j), .int (nI k)] (S) (eI (fun x S1 => x = hmC (fitB (vw (S) 1) k ((S).2.2.2 (34 + 2 * j + 1)) n) 100 ∧ fT LT (S) S1 ∧ sOk S1)) := by
  obtain ⟨M0, rfl⟩ := sOk_gs hS
  obtain ⟨h8, hpl⟩ := hI.pl
  refine MS.of pn_X10 (Nat.le_of_ble_eq_true rfl) ?_
  have lp : ∀ (j_ : Nat) (v : Nat) (c : Int32) (S1 : pS) (ok : sOk S1) (hk : fT LT (Gs M0) S1) (hc : c = hmC (fitB (vw (Gs M0) 1) k (M0 (34 + 2 * j + 1)) n) v) (hv : v ≤ 100), 100 - v < j_ → PW g mX10_howManyFit (eN g (Gs M0).1 6 0 0 (eI (fun x S1 => x = hmC (fitB (vw (Gs M0) 1) k ((Gs M0).2.2.2 (34 + 2 * j + 1)) n) 100 ∧ fT LT (Gs M0) S1 ∧ sOk S1))) 5 [some (.ref 28), some (.ref (34 + 2 * j)), some (.int (nI k)), some (.int c), some (.int (nI v))] [] (S1) 0 0 := by
    intro j_
    induction j_ with
    | zero => intro v c S1 ok hk hc hv hj; exact absurd hj (Nat.not_lt_zero _)
    | succ j_ ih =>
      intro v c S1 ok hk hc hv hj
      obtain ⟨M, rfl⟩ := sOk_gs ok
      refine r_iload dX10_howManyFit_5 rfl ?_
      refine r_bipush (v := 99) dX10_howManyFit_7 (by decide) ?_
      refine r_icmp_gtN (v) (99) (tgt := 32) dX10_howManyFit_9 (by decide) (by omega) (by omega) (fun c_9 => ?_) (fun c_9 => ?_)
      · (try dsimp only [Gs_M] at c_9)
        refine r_iload_n dX10_howManyFit_32 rfl rfl ?_
        refine r_iret dX10_howManyFit_33 rfl (Nat.le_refl _) ?_
        (try dsimp only [Gs_M])
        have e1 : v = 100 := by omega
        subst e1
        exact ⟨_, rfl, hc, hk, ok⟩
      · (try dsimp only [Gs_M] at c_9)
        refine r_aload_n dX10_howManyFit_12 rfl rfl ?_
        refine r_aload_n dX10_howManyFit_13 rfl rfl ?_
        refine r_iload_n dX10_howManyFit_14 rfl rfl ?_
        refine r_iload dX10_howManyFit_15 rfl ?_
        refine r_callV_eI (ci := 10) dX10_howManyFit_17 (s_X10_isFitting g ok (by rw [nowT hk]; exact hI) (by rw [nowT hk]; exact hN) j (k) (v) n hj4 (by rw [nowT hk]; exact hk8) (by omega) hn ((congrFun (shT hk).1 1).trans hz)) mf_X10_isFitting mi_X10_isFitting se_X10_X10_X10_isFitting ml_X10_86 rfl rfl (Nat.le_of_ble_eq_true rfl) rfl (by decide) rfl (Nat.le_of_ble_eq_true rfl) ⟨(Nat.le_of_ble_eq_true rfl), (Nat.le_of_ble_eq_true rfl)⟩ ⟨(Nat.le_of_ble_eq_true rfl), (Nat.le_of_ble_eq_true rfl)⟩ (fun r_17 S_17 q_17 z_17 => ?_)
        obtain ⟨x17, f17, ok17⟩ := q_17
        rw [nowT hk, (shT hk).2] at x17
        subst x17
        refine r_if_eq (tgt := 26) dX10_howManyFit_20 (by decide) (fun c_20 => ?_) (fun c_20 => ?_)
        · have c_20 := bI_0 c_20
          (try dsimp only [Gs_M] at c_20)
          refine r_iinc (v := nI (v + 1)) dX10_howManyFit_26 rfl (nI_1 _) (by decide) ?_
          refine r_goto (tgt := 5) dX10_howManyFit_29 (by decide) ?_
          exact PW.subL (ih (v + 1) c _ ok17 (hk.tr f17) (by rw [hmC, if_neg c_20, Int32.add_zero]; exact hc) (by omega) (by omega)) (by repeat' first | exact True.intro | refine And.intro rfl ?_)
        · have c_20 := bI_n c_20
          (try dsimp only [Gs_M] at c_20)
          refine r_iinc dX10_howManyFit_23 rfl rfl (by decide) ?_
          refine r_iinc (v := nI (v + 1)) dX10_howManyFit_26 rfl (nI_1 _) (by decide) ?_
          refine r_goto (tgt := 5) dX10_howManyFit_29 (by decide) ?_
          exact PW.subL (ih (v + 1) (c + 1) _ ok17 (hk.tr f17) (by rw [hmC, if_pos c_20, ← hc]) (by omega) (by omega)) (by repeat' first | exact True.intro | refine And.intro rfl ?_)
  refine r_iconst (v := 0) dX10_howManyFit_0 (by decide) ?_
  refine r_istore_n dX10_howManyFit_1 rfl (by decide) ?_
  refine r_iconst (v := 0) dX10_howManyFit_2 (by decide) ?_
  refine r_istore dX10_howManyFit_3 (by decide) ?_
  exact PW.subL (lp 101 0 0 _ hS fT.rf rfl (by omega) (by omega)) (by repeat' first | exact True.intro | refine And.intro rfl ?_)
set_option maxRecDepth 20000 in
set_option maxHeartbeats 1000000 in
theorem s_X10_leastThatFits (g : pG) {S : pS} (hS : sOk S) (hI : InvR (vw S 1)) (hN : InvN (vw S 1)) (j k n : Nat) (hj4 : j < 4) (hk8 : k < plR (vw S 1)) (hn : n ≤ 40) (hz : S.2.2.2 (34 + 2 * j) 1 = nI n) : MS g mX10_leastThatFits 6 0 0 [.ref 28, .ref (34 + 2 * j), .int (nI k)] (S) (eI (fun x S1 => x = fwR (fitB (vw (S) 1) k ((S).2.2.2 (34 + 2 * j + 1)) n) 100 ∧ fT LT (S) S1 ∧ sOk S1)) := by
  obtain ⟨M0, rfl⟩ := sOk_gs hS
  obtain ⟨h8, hpl⟩ := hI.pl
  refine MS.of pn_X10 (Nat.le_of_ble_eq_true rfl) ?_
  have lp : ∀ (j_ : Nat) (v : Nat) (S1 : pS) (ok : sOk S1) (hk : fT LT (Gs M0) S1) (hf : fwR (fitB (vw (Gs M0) 1) k (M0 (34 + 2 * j + 1)) n) v = -3) (hv : v ≤ 100), 100 - v < j_ → PW g mX10_leastThatFits (eN g (Gs M0).1 6 0 0 (eI (fun x S1 => x = fwR (fitB (vw (Gs M0) 1) k ((Gs M0).2.2.2 (34 + 2 * j + 1)) n) 100 ∧ fT LT (Gs M0) S1 ∧ sOk S1))) 2 [some (.ref 28), some (.ref (34 + 2 * j)), some (.int (nI k)), some (.int (nI v))] [] (S1) 0 0 := by
    intro j_
    induction j_ with
    | zero => intro v S1 ok hk hf hv hj; exact absurd hj (Nat.not_lt_zero _)
    | succ j_ ih =>
      intro v S1 ok hk hf hv hj
      obtain ⟨M, rfl⟩ := sOk_gs ok
      refine r_iload_n dX10_leastThatFits_2 rfl rfl ?_
      refine r_bipush (v := 99) dX10_leastThatFits_3 (by decide) ?_
      refine r_icmp_gtN (v) (99) (tgt := 26) dX10_leastThatFits_5 (by decide) (by omega) (by omega) (fun c_5 => ?_) (fun c_5 => ?_)
      · (try dsimp only [Gs_M] at c_5)
        refine r_bipush (v := (-3)) dX10_leastThatFits_26 (by decide) ?_
        refine r_iret dX10_leastThatFits_28 rfl (Nat.le_refl _) ?_
        (try dsimp only [Gs_M])
        have e1 : v = 100 := by omega
        subst e1
        exact ⟨_, rfl, hf.symm, hk, ok⟩
      · (try dsimp only [Gs_M] at c_5)
        refine r_aload_n dX10_leastThatFits_8 rfl rfl ?_
        refine r_aload_n dX10_leastThatFits_9 rfl rfl ?_
        refine r_iload_n dX10_leastThatFits_10 rfl rfl ?_
        refine r_iload_n dX10_leastThatFits_11 rfl rfl ?_
        refine r_callV_eI (ci := 10) dX10_leastThatFits_12 (s_X10_isFitting g ok (by rw [nowT hk]; exact hI) (by rw [nowT hk]; exact hN) j (k) (v) n hj4 (by rw [nowT hk]; exact hk8) (by omega) hn ((congrFun (shT hk).1 1).trans hz)) mf_X10_isFitting mi_X10_isFitting se_X10_X10_X10_isFitting ml_X10_86 rfl rfl (Nat.le_of_ble_eq_true rfl) rfl (by decide) rfl (Nat.le_of_ble_eq_true rfl) ⟨(Nat.le_of_ble_eq_true rfl), (Nat.le_of_ble_eq_true rfl)⟩ ⟨(Nat.le_of_ble_eq_true rfl), (Nat.le_of_ble_eq_true rfl)⟩ (fun r_12 S_12 q_12 z_12 => ?_)
        obtain ⟨x12, f12, ok12⟩ := q_12
        rw [nowT hk, (shT hk).2] at x12
        subst x12
        refine r_if_eq (tgt := 20) dX10_leastThatFits_15 (by decide) (fun c_15 => ?_) (fun c_15 => ?_)
        · have c_15 := bI_0 c_15
          (try dsimp only [Gs_M] at c_15)
          refine r_iinc (v := nI (v + 1)) dX10_leastThatFits_20 rfl (nI_1 _) (by decide) ?_
          refine r_goto (tgt := 2) dX10_leastThatFits_23 (by decide) ?_
          exact PW.subL (ih (v + 1) _ ok12 (hk.tr f12) (fwR_n hf c_15).symm (by omega) (by omega)) (by repeat' first | exact True.intro | refine And.intro rfl ?_)
        · have c_15 := bI_n c_15
          (try dsimp only [Gs_M] at c_15)
          refine r_iload_n dX10_leastThatFits_18 rfl rfl ?_
          refine r_iret dX10_leastThatFits_19 rfl (Nat.le_refl _) ?_
          (try dsimp only [Gs_M])
          exact ⟨_, rfl, fwR_end (fwR_y hf c_15) (nI_ne3 (by omega)) (by omega), hk.tr f12, ok12⟩
  refine r_iconst (v := 0) dX10_leastThatFits_0 (by decide) ?_
  refine r_istore_n dX10_leastThatFits_1 rfl (by decide) ?_
  exact PW.subL (lp 101 0 _ hS fT.rf rfl (by omega) (by omega)) (by repeat' first | exact True.intro | refine And.intro rfl ?_)
set_option maxRecDepth 20000 in
set_option maxHeartbeats 1000000 in
theorem s_X10_makeRows31 (g : pG) {S : pS} (hS : sOk S) (hI : InvR (vw S 1)) (hN : InvN (vw S 1)) (k n : Nat) (hk8 : k < plR (vw S 1)) (hn : n ≤ 10) : MS g mX10_makeRows 5 0 0 [.ref 28, .int (nI k), .int (nI n), .ref 31] (S) (eV (fun S1 => fT (31 :: LT) (S) S1 ∧ sOk S1 ∧ S1.2.2.2 31 = prvR (vw (S) 1) k ((S).2.2.2 31) n)) := by
  obtain ⟨M0, rfl⟩ := sOk_gs hS
  obtain ⟨h8, hpl⟩ := hI.pl
  have how := hI.own k (by omega)
  refine MS.of pn_X10 (Nat.le_of_ble_eq_true rfl) ?_
  refine r_aload_n dX10_makeRows_0 rfl rfl ?_
  refine r_getR (q := 10) dX10_makeRows_1 (ci := 10) (kf := 1) rfl (Nat.le_of_ble_eq_true rfl) (by decide) (by decide) rfl fl_X10_15 (Or.inl rfl) rfl ?_
  refine r_aload_n dX10_makeRows_4 rfl rfl ?_
  refine r_getR (q := 1) dX10_makeRows_5 (ci := 10) (kf := 0) rfl (Nat.le_of_ble_eq_true rfl) (by decide) (by decide) rfl fl_X10_9 (Or.inl rfl) rfl ?_
  refine r_callV_eV (ci := 0) dX10_makeRows_8 (c_X0_copyFrom g hS hI hN) mf_X0_copyFrom mi_X0_copyFrom se_X0_X0_X0_copyFrom ml_X10_28 rfl rfl (Nat.le_of_ble_eq_true rfl) rfl (by decide) rfl (Nat.le_of_ble_eq_true rfl) ⟨(Nat.le_of_ble_eq_true rfl), (Nat.le_of_ble_eq_true rfl)⟩ ⟨(Nat.le_of_ble_eq_true rfl), (Nat.le_of_ble_eq_true rfl)⟩ (fun S_8 q_8 z_8 => ?_)
  obtain ⟨f8, ok8, v8⟩ := q_8
  obtain ⟨Ma, rfl⟩ := sOk_gs ok8
  refine r_iconst (v := 0) dX10_makeRows_11 (by decide) ?_
  refine r_istore dX10_makeRows_12 (by decide) ?_
  have lp : ∀ (j_ : Nat) (i : Nat) (S1 : pS) (ok : sOk S1) (hk : fT (31 :: LT) (Gs M0) S1) (hv : vw S1 10 = goC (vw (Gs M0) 1) i) (hr : S1.2.2.2 31 = prvR (vw (Gs M0) 1) k ((Gs M0).2.2.2 31) i) (hi : i ≤ n), n - i < j_ → PW g mX10_makeRows (eN g (Gs M0).1 5 0 0 (eV (fun S1 => fT (31 :: LT) (Gs M0) S1 ∧ sOk S1 ∧ S1.2.2.2 31 = prvR (vw (Gs M0) 1) k ((Gs M0).2.2.2 31) n))) 14 [some (.ref 28), some (.int (nI k)), some (.int (nI n)), some (.ref 31), some (.int (nI i)), none] [] (S1) 0 0 := by
    intro j_
    induction j_ with
    | zero => intro i S1 ok hk hv hr hi hj; exact absurd hj (Nat.not_lt_zero _)
    | succ j_ ih =>
      intro i S1 ok hk hv hr hi hj
      obtain ⟨M, rfl⟩ := sOk_gs ok
      have hI1 : InvR (vw (Gs M) 10) := hv ▸ goC_inv hI i
      have hN1 : InvN (vw (Gs M) 10) := hv ▸ goC_N hN i
      have ge := goC_e hI i
      have gi := goR_inv hI i
      have ep : plR (vw (Gs M) 10) = plR (vw (Gs M0) 1) := by rw [hv, ge.pl, goR_pl]
      refine r_iload dX10_makeRows_14 rfl ?_
      refine r_iload_n dX10_makeRows_16 rfl rfl ?_
      refine r_icmp_geN (i) (n) (tgt := 96) dX10_makeRows_17 (by decide) (by omega) (by omega) (fun c_17 => ?_) (fun c_17 => ?_)
      · (try dsimp only [Gs_M] at c_17)
        refine r_vret dX10_makeRows_96 rfl (Nat.le_refl _) ?_
        (try dsimp only [Gs_M])
        have ei : i = n := by omega
        subst ei
        exact ⟨rfl, hk, ok, hr⟩
      · (try dsimp only [Gs_M] at c_17)
        refine r_iload dX10_makeRows_20 rfl ?_
        refine r_iconst (v := 1) dX10_makeRows_22 (by decide) ?_
        refine r_iaddN (i) (1) dX10_makeRows_23 ?_
        refine r_iconst (v := 3) dX10_makeRows_24 (by decide) ?_
        refine r_imulN ((i + 1)) (3) dX10_makeRows_25 ?_
        refine r_aload_n dX10_makeRows_26 rfl rfl ?_
        refine r_alen (N := 30) dX10_makeRows_27 rfl (Nat.le_of_ble_eq_true rfl) ?_
        refine r_icmp_gtN (((i + 1) * 3)) (30) (tgt := 96) dX10_makeRows_28 (by decide) (by omega) (by omega) (fun c_28 => ?_) (fun c_28 => ?_)
        · (try dsimp only [Gs_M] at c_28)
          exact absurd c_28 (by omega)
        · (try dsimp only [Gs_M] at c_28)
          refine r_aload_n dX10_makeRows_31 rfl rfl ?_
          refine r_getR (q := 10) dX10_makeRows_32 (ci := 10) (kf := 1) rfl (Nat.le_of_ble_eq_true rfl) (by decide) (by decide) rfl fl_X10_15 (Or.inl rfl) rfl ?_
          refine r_callV_eI (ci := 0) dX10_makeRows_35 (c_X0_playNight g ok hI1 hN1) mf_X0_playNight mi_X0_playNight se_X0_X0_X0_playNight ml_X10_24 rfl rfl (Nat.le_of_ble_eq_true rfl) rfl (by decide) rfl (Nat.le_of_ble_eq_true rfl) ⟨(Nat.le_of_ble_eq_true rfl), (Nat.le_of_ble_eq_true rfl)⟩ ⟨(Nat.le_of_ble_eq_true rfl), (Nat.le_of_ble_eq_true rfl)⟩ (fun r_35 S_35 q_35 z_35 => ?_)
          obtain ⟨rfl, f35, ok35, v35, bc35, br35⟩ := q_35
          obtain ⟨Mb, rfl⟩ := sOk_gs ok35
          have r0 : (Gs Mb).2.2.2 (10 + 8) k = rowV (goR (vw (Gs M0) 1) i) k 0 := by
            show _ = rol (goR (vw (Gs M0) 1) i) k
            rw [← ge.ro gi, ← hv]
            exact br35 k (by rw [ep]; exact hk8)
          have r2 : showB (vw (Gs M) 10) = rowV (goR (vw (Gs M0) 1) i) k 2 := by
            show _ = showB (goR (vw (Gs M0) 1) i)
            rw [hv]
            exact ge.sB gi
          have eo : owR (goR (vw (Gs M0) 1) i) k = owR (vw (Gs M0) 1) k := by unfold owR; rw [goR_own]
          have r1 : nightC (goC (vw (Gs M0) 1) i) (16 + 11 * k + (3 + owR (vw (Gs M0) 1) k)) = rowV (goR (vw (Gs M0) 1) i) k 1 := by
            show _ = nightR (goR (vw (Gs M0) 1) i) (16 + 11 * k + (3 + owR (goR (vw (Gs M0) 1) i) k))
            rw [eo]
            exact (nightC_e.tr (ge.night gi)).2 k (by show k < plR (goR (vw (Gs M0) 1) (i + 1)); rw [goR_pl]; exact hk8) _ (by omega)
          refine r_istore dX10_makeRows_38 (by decide) ?_
          refine r_aload_n dX10_makeRows_40 rfl rfl ?_
          refine r_iload dX10_makeRows_41 rfl ?_
          refine r_iconst (v := 3) dX10_makeRows_43 (by decide) ?_
          refine r_imulN (i) (3) dX10_makeRows_44 ?_
          refine r_aload_n dX10_makeRows_45 rfl rfl ?_
          refine r_getR (q := 10) dX10_makeRows_46 (ci := 10) (kf := 1) rfl (Nat.le_of_ble_eq_true rfl) (by decide) (by decide) rfl fl_X10_15 (Or.inl rfl) rfl ?_
          refine r_getR (q := (10 + 8)) dX10_makeRows_49 (ci := 0) (kf := 11) rfl (Nat.le_of_ble_eq_true rfl) (by decide) (by decide) rfl fl_X10_40 (Or.inl rfl) (CoG (Or.inr (Or.inl rfl))).2.2.2.2.2.2.2.2.2.2 ?_
          refine r_iload_n dX10_makeRows_52 rfl rfl ?_
          refine r_iald (j := k) dX10_makeRows_53 (CoG (Or.inr (Or.inl rfl))).2.2.1.2.2.2.2.2.2.2 (Co_la8 (CoG (Or.inr (Or.inl rfl)))) rfl (by omega) (by decide) ?_
          refine r_iast (j := 3 * i + 0) dX10_makeRows_54 rfl (Nat.le_of_ble_eq_true rfl) (congrArg nI (by omega)) (by omega) (by decide) ?_
          refine r_aload_n dX10_makeRows_55 rfl rfl ?_
          refine r_iload dX10_makeRows_56 rfl ?_
          refine r_iconst (v := 3) dX10_makeRows_58 (by decide) ?_
          refine r_imulN (i) (3) dX10_makeRows_59 ?_
          refine r_iconst (v := 1) dX10_makeRows_60 (by decide) ?_
          refine r_iaddN ((i * 3)) (1) dX10_makeRows_61 ?_
          refine r_aload_n dX10_makeRows_62 rfl rfl ?_
          refine r_getR (q := 10) dX10_makeRows_63 (ci := 10) (kf := 1) rfl (Nat.le_of_ble_eq_true rfl) (by decide) (by decide) rfl fl_X10_15 (Or.inl rfl) rfl ?_
          refine r_iload_n dX10_makeRows_66 rfl rfl ?_
          refine r_aload_n dX10_makeRows_67 rfl rfl ?_
          refine r_getR (q := 10) dX10_makeRows_68 (ci := 10) (kf := 1) rfl (Nat.le_of_ble_eq_true rfl) (by decide) (by decide) rfl fl_X10_15 (Or.inl rfl) rfl ?_
          refine r_getR (q := (10 + 4)) dX10_makeRows_71 (ci := 0) (kf := 3) rfl (Nat.le_of_ble_eq_true rfl) (by decide) (by decide) rfl fl_X10_90 (Or.inl rfl) (CoG (Or.inr (Or.inl rfl))).2.2.2.2.2.2.1 ?_
          refine r_iload_n dX10_makeRows_74 rfl rfl ?_
          refine r_iald (j := k) dX10_makeRows_75 (CoG (Or.inr (Or.inl rfl))).2.2.1.2.2.2.1 (Co_la4 (CoG (Or.inr (Or.inl rfl)))) rfl (by omega) (by decide) ?_
          have eo2 : (Gs Mb).2.2.2 (10 + 4) k = nI (owR (vw (Gs M0) 1) k) := by
            rw [← vw_o (S := Gs Mb) (b := 10) (by omega), v35, hv, (nightC_e.tr (ge.night gi)).2 k (by show k < plR (goR (vw (Gs M0) 1) (i + 1)); rw [goR_pl]; exact hk8) 1 (by omega), nightR_own, goR_own]
            exact owR_v hI (by omega)
          rw [show ∀ x, (mSet (Gs Mb) 31 (3 * i + 0) x).2.2.2 (10 + 4) k = nI (owR (vw (Gs M0) 1) k) from fun x => eo2]
          refine r_callV_dI (ci := 0) dX10_makeRows_76 (s_X0_knowing g (S := mSet (Gs Mb) 31 (3 * i + 0) ((Gs Mb).2.2.2 (10 + 8) k)) (CoG (Or.inr (Or.inl rfl))) (k) ((owR (vw (Gs M0) 1) k)) (by omega) (by omega)) mf_X0_knowing mi_X0_knowing se_X0_X0_X0_knowing ml_X10_36 rfl rfl (Nat.le_of_ble_eq_true rfl) rfl (by decide) rfl (Nat.le_of_ble_eq_true rfl) ⟨(Nat.le_of_ble_eq_true rfl), (Nat.le_of_ble_eq_true rfl)⟩ ⟨(Nat.le_of_ble_eq_true rfl), (Nat.le_of_ble_eq_true rfl)⟩ ?_
          rw [show ∀ x, vw (mSet (Gs Mb) 31 (3 * i + 0) x) 10 (16 + 11 * k + (3 + owR (vw (Gs M0) 1) k)) = nightC (goC (vw (Gs M0) 1) i) (16 + 11 * k + (3 + owR (vw (Gs M0) 1) k)) from fun x => by rw [vw_ne (by omega), v35, hv]]
          refine r_iast (j := 3 * i + 1) dX10_makeRows_79 rfl (Nat.le_of_ble_eq_true rfl) (congrArg nI (by omega)) (by omega) (by decide) ?_
          refine r_aload_n dX10_makeRows_80 rfl rfl ?_
          refine r_iload dX10_makeRows_81 rfl ?_
          refine r_iconst (v := 3) dX10_makeRows_83 (by decide) ?_
          refine r_imulN (i) (3) dX10_makeRows_84 ?_
          refine r_iconst (v := 2) dX10_makeRows_85 (by decide) ?_
          refine r_iaddN ((i * 3)) (2) dX10_makeRows_86 ?_
          refine r_iload dX10_makeRows_87 rfl ?_
          refine r_iast (j := 3 * i + 2) dX10_makeRows_89 rfl (Nat.le_of_ble_eq_true rfl) (congrArg nI (by omega)) (by omega) (by decide) ?_
          refine r_iinc (v := nI (i + 1)) dX10_makeRows_90 rfl (nI_1 _) (by decide) ?_
          refine r_goto (tgt := 14) dX10_makeRows_93 (by decide) ?_
          refine PW.subL (ih (i + 1) _ ok35 (((hk.tr (f35.mono (by decide))).out (by decide) (by omega)).out (by decide) (by omega) |>.out (by decide) (by omega)) ?_ ?_ (by omega) (by omega)) (by repeat' first | exact True.intro | refine And.intro rfl ?_)
          · rw [vw_ne (by omega), vw_ne (by omega), vw_ne (by omega), v35, goC, ← hv]
          · rw [mSet_at, mSet_at, mSet_at, (f35.1.2 31 (by decide)).trans hr, prvR]
            rw [r0, r1, r2]
  exact PW.subL (lp (n + 1) 0 _ ok8 (f8.mono (by decide)) (v8.trans goC_0.symm) (f8.1.2 31 (by decide)) (by omega) (by omega)) (by repeat' first | exact True.intro | refine And.intro rfl ?_)
set_option maxRecDepth 20000 in
set_option maxHeartbeats 1000000 in
theorem s_X10_makeRows32 (g : pG) {S : pS} (hS : sOk S) (hI : InvR (vw S 1)) (hN : InvN (vw S 1)) (k n : Nat) (hk8 : k < plR (vw S 1)) (hn : n ≤ 10) : MS g mX10_makeRows 5 0 0 [.ref 28, .int (nI k), .int (nI n), .ref 32] (S) (eV (fun S1 => fT (32 :: LT) (S) S1 ∧ sOk S1 ∧ S1.2.2.2 32 = prvR (vw (S) 1) k ((S).2.2.2 32) n)) := by
  obtain ⟨M0, rfl⟩ := sOk_gs hS
  obtain ⟨h8, hpl⟩ := hI.pl
  have how := hI.own k (by omega)
  refine MS.of pn_X10 (Nat.le_of_ble_eq_true rfl) ?_
  refine r_aload_n dX10_makeRows_0 rfl rfl ?_
  refine r_getR (q := 10) dX10_makeRows_1 (ci := 10) (kf := 1) rfl (Nat.le_of_ble_eq_true rfl) (by decide) (by decide) rfl fl_X10_15 (Or.inl rfl) rfl ?_
  refine r_aload_n dX10_makeRows_4 rfl rfl ?_
  refine r_getR (q := 1) dX10_makeRows_5 (ci := 10) (kf := 0) rfl (Nat.le_of_ble_eq_true rfl) (by decide) (by decide) rfl fl_X10_9 (Or.inl rfl) rfl ?_
  refine r_callV_eV (ci := 0) dX10_makeRows_8 (c_X0_copyFrom g hS hI hN) mf_X0_copyFrom mi_X0_copyFrom se_X0_X0_X0_copyFrom ml_X10_28 rfl rfl (Nat.le_of_ble_eq_true rfl) rfl (by decide) rfl (Nat.le_of_ble_eq_true rfl) ⟨(Nat.le_of_ble_eq_true rfl), (Nat.le_of_ble_eq_true rfl)⟩ ⟨(Nat.le_of_ble_eq_true rfl), (Nat.le_of_ble_eq_true rfl)⟩ (fun S_8 q_8 z_8 => ?_)
  obtain ⟨f8, ok8, v8⟩ := q_8
  obtain ⟨Ma, rfl⟩ := sOk_gs ok8
  refine r_iconst (v := 0) dX10_makeRows_11 (by decide) ?_
  refine r_istore dX10_makeRows_12 (by decide) ?_
  have lp : ∀ (j_ : Nat) (i : Nat) (S1 : pS) (ok : sOk S1) (hk : fT (32 :: LT) (Gs M0) S1) (hv : vw S1 10 = goC (vw (Gs M0) 1) i) (hr : S1.2.2.2 32 = prvR (vw (Gs M0) 1) k ((Gs M0).2.2.2 32) i) (hi : i ≤ n), n - i < j_ → PW g mX10_makeRows (eN g (Gs M0).1 5 0 0 (eV (fun S1 => fT (32 :: LT) (Gs M0) S1 ∧ sOk S1 ∧ S1.2.2.2 32 = prvR (vw (Gs M0) 1) k ((Gs M0).2.2.2 32) n))) 14 [some (.ref 28), some (.int (nI k)), some (.int (nI n)), some (.ref 32), some (.int (nI i)), none] [] (S1) 0 0 := by
    intro j_
    induction j_ with
    | zero => intro i S1 ok hk hv hr hi hj; exact absurd hj (Nat.not_lt_zero _)
    | succ j_ ih =>
      intro i S1 ok hk hv hr hi hj
      obtain ⟨M, rfl⟩ := sOk_gs ok
      have hI1 : InvR (vw (Gs M) 10) := hv ▸ goC_inv hI i
      have hN1 : InvN (vw (Gs M) 10) := hv ▸ goC_N hN i
      have ge := goC_e hI i
      have gi := goR_inv hI i
      have ep : plR (vw (Gs M) 10) = plR (vw (Gs M0) 1) := by rw [hv, ge.pl, goR_pl]
      refine r_iload dX10_makeRows_14 rfl ?_
      refine r_iload_n dX10_makeRows_16 rfl rfl ?_
      refine r_icmp_geN (i) (n) (tgt := 96) dX10_makeRows_17 (by decide) (by omega) (by omega) (fun c_17 => ?_) (fun c_17 => ?_)
      · (try dsimp only [Gs_M] at c_17)
        refine r_vret dX10_makeRows_96 rfl (Nat.le_refl _) ?_
        (try dsimp only [Gs_M])
        have ei : i = n := by omega
        subst ei
        exact ⟨rfl, hk, ok, hr⟩
      · (try dsimp only [Gs_M] at c_17)
        refine r_iload dX10_makeRows_20 rfl ?_
        refine r_iconst (v := 1) dX10_makeRows_22 (by decide) ?_
        refine r_iaddN (i) (1) dX10_makeRows_23 ?_
        refine r_iconst (v := 3) dX10_makeRows_24 (by decide) ?_
        refine r_imulN ((i + 1)) (3) dX10_makeRows_25 ?_
        refine r_aload_n dX10_makeRows_26 rfl rfl ?_
        refine r_alen (N := 30) dX10_makeRows_27 rfl (Nat.le_of_ble_eq_true rfl) ?_
        refine r_icmp_gtN (((i + 1) * 3)) (30) (tgt := 96) dX10_makeRows_28 (by decide) (by omega) (by omega) (fun c_28 => ?_) (fun c_28 => ?_)
        · (try dsimp only [Gs_M] at c_28)
          exact absurd c_28 (by omega)
        · (try dsimp only [Gs_M] at c_28)
          refine r_aload_n dX10_makeRows_31 rfl rfl ?_
          refine r_getR (q := 10) dX10_makeRows_32 (ci := 10) (kf := 1) rfl (Nat.le_of_ble_eq_true rfl) (by decide) (by decide) rfl fl_X10_15 (Or.inl rfl) rfl ?_
          refine r_callV_eI (ci := 0) dX10_makeRows_35 (c_X0_playNight g ok hI1 hN1) mf_X0_playNight mi_X0_playNight se_X0_X0_X0_playNight ml_X10_24 rfl rfl (Nat.le_of_ble_eq_true rfl) rfl (by decide) rfl (Nat.le_of_ble_eq_true rfl) ⟨(Nat.le_of_ble_eq_true rfl), (Nat.le_of_ble_eq_true rfl)⟩ ⟨(Nat.le_of_ble_eq_true rfl), (Nat.le_of_ble_eq_true rfl)⟩ (fun r_35 S_35 q_35 z_35 => ?_)
          obtain ⟨rfl, f35, ok35, v35, bc35, br35⟩ := q_35
          obtain ⟨Mb, rfl⟩ := sOk_gs ok35
          have r0 : (Gs Mb).2.2.2 (10 + 8) k = rowV (goR (vw (Gs M0) 1) i) k 0 := by
            show _ = rol (goR (vw (Gs M0) 1) i) k
            rw [← ge.ro gi, ← hv]
            exact br35 k (by rw [ep]; exact hk8)
          have r2 : showB (vw (Gs M) 10) = rowV (goR (vw (Gs M0) 1) i) k 2 := by
            show _ = showB (goR (vw (Gs M0) 1) i)
            rw [hv]
            exact ge.sB gi
          have eo : owR (goR (vw (Gs M0) 1) i) k = owR (vw (Gs M0) 1) k := by unfold owR; rw [goR_own]
          have r1 : nightC (goC (vw (Gs M0) 1) i) (16 + 11 * k + (3 + owR (vw (Gs M0) 1) k)) = rowV (goR (vw (Gs M0) 1) i) k 1 := by
            show _ = nightR (goR (vw (Gs M0) 1) i) (16 + 11 * k + (3 + owR (goR (vw (Gs M0) 1) i) k))
            rw [eo]
            exact (nightC_e.tr (ge.night gi)).2 k (by show k < plR (goR (vw (Gs M0) 1) (i + 1)); rw [goR_pl]; exact hk8) _ (by omega)
          refine r_istore dX10_makeRows_38 (by decide) ?_
          refine r_aload_n dX10_makeRows_40 rfl rfl ?_
          refine r_iload dX10_makeRows_41 rfl ?_
          refine r_iconst (v := 3) dX10_makeRows_43 (by decide) ?_
          refine r_imulN (i) (3) dX10_makeRows_44 ?_
          refine r_aload_n dX10_makeRows_45 rfl rfl ?_
          refine r_getR (q := 10) dX10_makeRows_46 (ci := 10) (kf := 1) rfl (Nat.le_of_ble_eq_true rfl) (by decide) (by decide) rfl fl_X10_15 (Or.inl rfl) rfl ?_
          refine r_getR (q := (10 + 8)) dX10_makeRows_49 (ci := 0) (kf := 11) rfl (Nat.le_of_ble_eq_true rfl) (by decide) (by decide) rfl fl_X10_40 (Or.inl rfl) (CoG (Or.inr (Or.inl rfl))).2.2.2.2.2.2.2.2.2.2 ?_
          refine r_iload_n dX10_makeRows_52 rfl rfl ?_
          refine r_iald (j := k) dX10_makeRows_53 (CoG (Or.inr (Or.inl rfl))).2.2.1.2.2.2.2.2.2.2 (Co_la8 (CoG (Or.inr (Or.inl rfl)))) rfl (by omega) (by decide) ?_
          refine r_iast (j := 3 * i + 0) dX10_makeRows_54 rfl (Nat.le_of_ble_eq_true rfl) (congrArg nI (by omega)) (by omega) (by decide) ?_
          refine r_aload_n dX10_makeRows_55 rfl rfl ?_
          refine r_iload dX10_makeRows_56 rfl ?_
          refine r_iconst (v := 3) dX10_makeRows_58 (by decide) ?_
          refine r_imulN (i) (3) dX10_makeRows_59 ?_
          refine r_iconst (v := 1) dX10_makeRows_60 (by decide) ?_
          refine r_iaddN ((i * 3)) (1) dX10_makeRows_61 ?_
          refine r_aload_n dX10_makeRows_62 rfl rfl ?_
          refine r_getR (q := 10) dX10_makeRows_63 (ci := 10) (kf := 1) rfl (Nat.le_of_ble_eq_true rfl) (by decide) (by decide) rfl fl_X10_15 (Or.inl rfl) rfl ?_
          refine r_iload_n dX10_makeRows_66 rfl rfl ?_
          refine r_aload_n dX10_makeRows_67 rfl rfl ?_
          refine r_getR (q := 10) dX10_makeRows_68 (ci := 10) (kf := 1) rfl (Nat.le_of_ble_eq_true rfl) (by decide) (by decide) rfl fl_X10_15 (Or.inl rfl) rfl ?_
          refine r_getR (q := (10 + 4)) dX10_makeRows_71 (ci := 0) (kf := 3) rfl (Nat.le_of_ble_eq_true rfl) (by decide) (by decide) rfl fl_X10_90 (Or.inl rfl) (CoG (Or.inr (Or.inl rfl))).2.2.2.2.2.2.1 ?_
          refine r_iload_n dX10_makeRows_74 rfl rfl ?_
          refine r_iald (j := k) dX10_makeRows_75 (CoG (Or.inr (Or.inl rfl))).2.2.1.2.2.2.1 (Co_la4 (CoG (Or.inr (Or.inl rfl)))) rfl (by omega) (by decide) ?_
          have eo2 : (Gs Mb).2.2.2 (10 + 4) k = nI (owR (vw (Gs M0) 1) k) := by
            rw [← vw_o (S := Gs Mb) (b := 10) (by omega), v35, hv, (nightC_e.tr (ge.night gi)).2 k (by show k < plR (goR (vw (Gs M0) 1) (i + 1)); rw [goR_pl]; exact hk8) 1 (by omega), nightR_own, goR_own]
            exact owR_v hI (by omega)
          rw [show ∀ x, (mSet (Gs Mb) 32 (3 * i + 0) x).2.2.2 (10 + 4) k = nI (owR (vw (Gs M0) 1) k) from fun x => eo2]
          refine r_callV_dI (ci := 0) dX10_makeRows_76 (s_X0_knowing g (S := mSet (Gs Mb) 32 (3 * i + 0) ((Gs Mb).2.2.2 (10 + 8) k)) (CoG (Or.inr (Or.inl rfl))) (k) ((owR (vw (Gs M0) 1) k)) (by omega) (by omega)) mf_X0_knowing mi_X0_knowing se_X0_X0_X0_knowing ml_X10_36 rfl rfl (Nat.le_of_ble_eq_true rfl) rfl (by decide) rfl (Nat.le_of_ble_eq_true rfl) ⟨(Nat.le_of_ble_eq_true rfl), (Nat.le_of_ble_eq_true rfl)⟩ ⟨(Nat.le_of_ble_eq_true rfl), (Nat.le_of_ble_eq_true rfl)⟩ ?_
          rw [show ∀ x, vw (mSet (Gs Mb) 32 (3 * i + 0) x) 10 (16 + 11 * k + (3 + owR (vw (Gs M0) 1) k)) = nightC (goC (vw (Gs M0) 1) i) (16 + 11 * k + (3 + owR (vw (Gs M0) 1) k)) from fun x => by rw [vw_ne (by omega), v35, hv]]
          refine r_iast (j := 3 * i + 1) dX10_makeRows_79 rfl (Nat.le_of_ble_eq_true rfl) (congrArg nI (by omega)) (by omega) (by decide) ?_
          refine r_aload_n dX10_makeRows_80 rfl rfl ?_
          refine r_iload dX10_makeRows_81 rfl ?_
          refine r_iconst (v := 3) dX10_makeRows_83 (by decide) ?_
          refine r_imulN (i) (3) dX10_makeRows_84 ?_
          refine r_iconst (v := 2) dX10_makeRows_85 (by decide) ?_
          refine r_iaddN ((i * 3)) (2) dX10_makeRows_86 ?_
          refine r_iload dX10_makeRows_87 rfl ?_
          refine r_iast (j := 3 * i + 2) dX10_makeRows_89 rfl (Nat.le_of_ble_eq_true rfl) (congrArg nI (by omega)) (by omega) (by decide) ?_
          refine r_iinc (v := nI (i + 1)) dX10_makeRows_90 rfl (nI_1 _) (by decide) ?_
          refine r_goto (tgt := 14) dX10_makeRows_93 (by decide) ?_
          refine PW.subL (ih (i + 1) _ ok35 (((hk.tr (f35.mono (by decide))).out (by decide) (by omega)).out (by decide) (by omega) |>.out (by decide) (by omega)) ?_ ?_ (by omega) (by omega)) (by repeat' first | exact True.intro | refine And.intro rfl ?_)
          · rw [vw_ne (by omega), vw_ne (by omega), vw_ne (by omega), v35, goC, ← hv]
          · rw [mSet_at, mSet_at, mSet_at, (f35.1.2 32 (by decide)).trans hr, prvR]
            rw [r0, r1, r2]
  exact PW.subL (lp (n + 1) 0 _ ok8 (f8.mono (by decide)) (v8.trans goC_0.symm) (f8.1.2 32 (by decide)) (by omega) (by omega)) (by repeat' first | exact True.intro | refine And.intro rfl ?_)
