/-! ===== the tape is fed; the company is told ===== -/
def fcB (e : Int64) (k : Nat) : Int32 := vp_nar .byte ((e.toUInt64 >>> ((nI (8 * k)).toInt64.toUInt64 &&& Int64.toUInt64 63)).toInt64.toInt32.toInt8.toInt32)
def fcA (b : Nat → Int32) (t : Nat) (e : Int64) : Nat → Nat → Int32
  | 0 => b
  | k + 1 => upd (fcA b t e k) (t + k) (fcB e k)
def fcT (b : Nat → Int32) (t : Nat) (e : Int64) (n : Int32) : Nat → Int32 := if 1 ≤ n ∧ n ≤ 8 then (if t + cl n ≤ 200 then fcA b t e (cl n) else b) else b
set_option maxRecDepth 20000 in
set_option maxHeartbeats 1000000 in
theorem s_X8_append (g : pG) {S : pS} (hS : sOk S) {t : Nat} (ht : t ≤ 200) (en : S.2.2.2 29 1 = nI t) (e : Int64) {jn : Nat} (hj : jn ≤ 8) : MS g mX8_append 1 0 0 [.ref 29, .long e, .int (nI jn)] (S) (eI (fun rx S1 => rx = bI (t + jn ≤ 200) ∧ fr [29, 30] (S) S1 ∧ S1.2.2.2 30 = (if t + jn ≤ 200 then fcA ((S).2.2.2 30) t e jn else (S).2.2.2 30) ∧ S1.2.2.2 29 1 = nI (if t + jn ≤ 200 then t + jn else t))) := by
  obtain ⟨M0, rfl⟩ := sOk_gs hS
  have en : M0 29 1 = nI t := en
  refine MS.of pn_X8 (Nat.le_of_ble_eq_true rfl) ?_
  refine r_iload_n dX8_append_0 rfl rfl ?_
  refine r_sipush (v := 200) dX8_append_1 (by decide) ?_
  refine r_aload_n dX8_append_4 rfl rfl ?_
  refine r_getI dX8_append_5 (ci := 8) (kf := 1) rfl (Nat.le_of_ble_eq_true rfl) (by decide) (by decide) rfl fl_X8_15 (Or.inl rfl) ?_
  rw [show (Gs M0).2.2.2 29 1 = nI t from en]
  refine r_isubN (200) (t) dX8_append_8 (by omega) ?_
  refine r_icmp_leN (jn) ((200 - t)) (tgt := 14) dX8_append_9 (by decide) (by omega) (by omega) (fun c_9 => ?_) (fun c_9 => ?_)
  · (try dsimp only [Gs_M] at c_9)
    have c_9 : t + jn ≤ 200 := by omega
    refine r_iconst (v := 0) dX8_append_14 (by decide) ?_
    refine r_istore dX8_append_15 (by decide) ?_
    have lp : ∀ (j_ : Nat) (k : Nat) (S1 : pS) (hk : fr [30] (Gs M0) S1) (h30 : S1.2.2.2 30 = fcA (M0 30) t e k) (hkj : k ≤ jn), jn - k < j_ → PW g mX8_append (eN g (Gs M0).1 1 0 0 (eI (fun rx S1 => rx = bI (t + jn ≤ 200) ∧ fr [29, 30] (Gs M0) S1 ∧ S1.2.2.2 30 = (if t + jn ≤ 200 then fcA ((Gs M0).2.2.2 30) t e jn else (Gs M0).2.2.2 30) ∧ S1.2.2.2 29 1 = nI (if t + jn ≤ 200 then t + jn else t)))) 17 [some (.ref 29), some (.long e), none, some (.int (nI jn)), some (.int (nI k))] [] (S1) 0 0 := by
      intro j_
      induction j_ with
      | zero => intro k S1 hk h30 hkj hj; exact absurd hj (Nat.not_lt_zero _)
      | succ j_ ih =>
        intro k S1 hk h30 hkj hj
        obtain ⟨M, rfl⟩ := sOk_gs (hk.ok ⟨rfl, rfl, rfl⟩)
        have h30 : M 30 = fcA (M0 30) t e k := h30
        have en1 : M 29 1 = nI t := (congrFun (hk.2 29 (by decide)) 1).trans en
        refine r_iload dX8_append_17 rfl ?_
        refine r_iload_n dX8_append_19 rfl rfl ?_
        refine r_icmp_geN (k) (jn) (tgt := 50) dX8_append_20 (by decide) (by omega) (by omega) (fun c_20 => ?_) (fun c_20 => ?_)
        · (try dsimp only [Gs_M] at c_20)
          refine r_aload_n dX8_append_50 rfl rfl ?_
          refine r_dup dX8_append_51 rfl ?_
          refine r_getI dX8_append_52 (ci := 8) (kf := 1) rfl (Nat.le_of_ble_eq_true rfl) (by decide) (by decide) rfl fl_X8_15 (Or.inl rfl) ?_
          have ek : jn = k := by omega
          subst ek
          rw [show (Gs M).2.2.2 29 1 = nI t from en1]
          refine r_iload_n dX8_append_55 rfl rfl ?_
          refine r_iaddN (t) (jn) dX8_append_56 ?_
          refine r_putI dX8_append_57 (ci := 8) (kf := 1) rfl (Nat.le_of_ble_eq_true rfl) (by decide) (by decide) rfl fl_X8_15 (Or.inl rfl) rfl rfl rfl ?_
          refine r_iconst (v := 1) dX8_append_60 (by decide) ?_
          refine r_zret dX8_append_61 rfl rfl (Nat.le_refl _) ?_
          (try dsimp only [Gs_M])
          refine ⟨_, rfl, ?_, (hk.mono (by decide)).set (by decide), ?_, ?_⟩
          · exact (bI_t c_9).symm
          · rw [if_pos c_9, mSet_ne (by decide)]
            exact h30
          · rw [if_pos c_9, mSet_at, pk_us]
        · (try dsimp only [Gs_M] at c_20)
          refine r_aload_n dX8_append_23 rfl rfl ?_
          refine r_getR (q := 30) dX8_append_24 (ci := 8) (kf := 0) rfl (Nat.le_of_ble_eq_true rfl) (by decide) (by decide) rfl fl_X8_11 (Or.inl rfl) rfl ?_
          refine r_aload_n dX8_append_27 rfl rfl ?_
          refine r_getI dX8_append_28 (ci := 8) (kf := 1) rfl (Nat.le_of_ble_eq_true rfl) (by decide) (by decide) rfl fl_X8_15 (Or.inl rfl) ?_
          rw [show (Gs M).2.2.2 29 1 = nI t from en1]
          refine r_iload dX8_append_31 rfl ?_
          refine r_iaddN (t) (k) dX8_append_33 ?_
          refine r_lload_n dX8_append_34 rfl rfl ?_
          refine r_bipush (v := 8) dX8_append_35 (by decide) ?_
          refine r_iload dX8_append_37 rfl ?_
          refine r_imulN (8) (k) dX8_append_39 ?_
          refine r_lushr dX8_append_40 rfl ?_
          refine r_l2i dX8_append_41 rfl ?_
          refine r_i2b dX8_append_42 rfl ?_
          refine r_bast (j := (t + k)) dX8_append_43 rfl (Nat.le_of_ble_eq_true rfl) rfl (by omega) (by decide) ?_
          refine r_iinc (v := nI (k + 1)) dX8_append_44 rfl (nI_1 _) (by decide) ?_
          refine r_goto (tgt := 17) dX8_append_47 (by decide) ?_
          exact PW.subL (ih (k + 1) _ (hk.set (by decide)) (by rw [mSet_at]; show upd (M 30) _ _ = _; rw [h30]; rfl) (by omega) (by omega)) (by repeat' first | exact True.intro | refine And.intro rfl ?_)
    exact PW.subL (lp (jn + 1) 0 _ fr.rf rfl (by omega) (by omega)) (by repeat' first | exact True.intro | refine And.intro rfl ?_)
  · (try dsimp only [Gs_M] at c_9)
    have c_9 : ¬ t + jn ≤ 200 := by omega
    refine r_iconst (v := 0) dX8_append_12 (by decide) ?_
    refine r_zret dX8_append_13 rfl rfl (Nat.le_refl _) ?_
    (try dsimp only [Gs_M])
    refine ⟨_, rfl, ?_, fr.rf, ?_, ?_⟩
    · exact (bI_f c_9).symm
    · rw [if_neg c_9]
      rfl
    · rw [if_neg c_9]
      exact en
set_option maxRecDepth 20000 in
set_option maxHeartbeats 1000000 in
theorem s_X11_feed (g : pG) {S : pS} (hS : sOk S) {t : Nat} (ht : t ≤ 200) (en : S.2.2.2 29 1 = nI t) (e : Int64) (n : Int32) : MS g mX11_feed 2 0 0 [.ref 0, .long e, .int n] (S) (eI (fun rx S1 => rx = feedX t n ∧ fr [29, 30] (S) S1 ∧ S1.2.2.2 30 = fcT ((S).2.2.2 30) t e n ∧ S1.2.2.2 29 1 = nI (feedN t n))) := by
  obtain ⟨M0, rfl⟩ := sOk_gs hS
  have en : M0 29 1 = nI t := en
  refine MS.of pn_X11 (Nat.le_of_ble_eq_true rfl) ?_
  refine r_iload_n dX11_feed_0 rfl rfl ?_
  refine r_iconst (v := 1) dX11_feed_1 (by decide) ?_
  refine r_icmp_lt (tgt := 11) dX11_feed_2 (by decide) (fun c_2 => ?_) (fun c_2 => ?_)
  · (try dsimp only [Gs_M] at c_2)
    refine r_iconst (v := (-1)) dX11_feed_11 (by decide) ?_
    refine r_iret dX11_feed_12 rfl (Nat.le_refl _) ?_
    (try dsimp only [Gs_M])
    refine ⟨_, rfl, ?_, fr.rf, ?_, ?_⟩
    · rw [feedX, if_neg (fun z => Int32.not_lt.mpr z.1 c_2)]
    · rw [fcT, if_neg (fun z => Int32.not_lt.mpr z.1 c_2)]
      rfl
    · rw [feedN, if_neg (fun z => Int32.not_lt.mpr z.1 c_2)]
      exact en
  · (try dsimp only [Gs_M] at c_2)
    refine r_iload_n dX11_feed_5 rfl rfl ?_
    refine r_bipush (v := 8) dX11_feed_6 (by decide) ?_
    refine r_icmp_le (tgt := 13) dX11_feed_8 (by decide) (fun c_8 => ?_) (fun c_8 => ?_)
    · (try dsimp only [Gs_M] at c_8)
      have c_4 : 1 ≤ n ∧ n ≤ 8 := ⟨Int32.not_lt.mp c_2, c_8⟩
      obtain ⟨jn, hjn, rfl⟩ := rng (x := n) 8 (by decide) ⟨Int32.le_trans (by decide) c_4.1, c_4.2⟩
      refine r_aload_n dX11_feed_13 rfl rfl ?_
      refine r_getR (q := 29) dX11_feed_14 (ci := 11) (kf := 5) rfl (Nat.le_of_ble_eq_true rfl) (by decide) (by decide) rfl fl_X11_34 (Or.inl rfl) rfl ?_
      refine r_lload_n dX11_feed_17 rfl rfl ?_
      refine r_iload_n dX11_feed_18 rfl rfl ?_
      refine r_callV_eI (ci := 8) dX11_feed_19 (s_X8_append g hS ht en e hjn) mf_X8_append mi_X8_append se_X8_X8_X8_append ml_X11_92 rfl rfl (Nat.le_of_ble_eq_true rfl) rfl (by decide) rfl (Nat.le_of_ble_eq_true rfl) ⟨(Nat.le_of_ble_eq_true rfl), (Nat.le_of_ble_eq_true rfl)⟩ ⟨(Nat.le_of_ble_eq_true rfl), (Nat.le_of_ble_eq_true rfl)⟩ (fun r_19 S_19 q_19 z_19 => ?_)
      obtain ⟨e_19, f_19, h_30, h_29⟩ := q_19
      obtain ⟨Ma, rfl⟩ := sOk_gs (f_19.ok ⟨rfl, rfl, rfl⟩)
      rw [e_19]
      refine r_if_eq (tgt := 35) dX11_feed_22 (by decide) (fun c_22 => ?_) (fun c_22 => ?_)
      · have c_22 := bI_0 c_22
        (try dsimp only [Gs_M] at c_22)
        refine r_bipush (v := (-2)) dX11_feed_35 (by decide) ?_
        refine r_iret dX11_feed_37 rfl (Nat.le_refl _) ?_
        (try dsimp only [Gs_M])
        rw [if_neg c_22] at h_30 h_29
        refine ⟨_, rfl, ?_, f_19, ?_, ?_⟩
        · rw [feedX, if_pos c_4, cl_nI (by omega), if_neg c_22]
        · rw [fcT, if_pos c_4, cl_nI (by omega), if_neg c_22]
          exact h_30
        · rw [feedN, if_pos c_4, cl_nI (by omega), if_neg c_22]
          exact h_29
      · have c_22 := bI_n c_22
        (try dsimp only [Gs_M] at c_22)
        refine r_aload_n dX11_feed_25 rfl rfl ?_
        refine r_getR (q := 29) dX11_feed_26 (ci := 11) (kf := 5) rfl (Nat.le_of_ble_eq_true rfl) (by decide) (by decide) rfl fl_X11_34 (Or.inl rfl) rfl ?_
        refine r_getI dX11_feed_29 (ci := 8) (kf := 1) rfl (Nat.le_of_ble_eq_true rfl) (by decide) (by decide) rfl fl_X11_96 (Or.inl rfl) ?_
        refine r_goto (tgt := 37) dX11_feed_32 (by decide) ?_
        refine r_iret dX11_feed_37 rfl (Nat.le_refl _) ?_
        (try dsimp only [Gs_M])
        rw [if_pos c_22] at h_30 h_29
        refine ⟨_, rfl, ?_, f_19, ?_, ?_⟩
        · rw [feedX, if_pos c_4, cl_nI (by omega), if_pos c_22]
          exact h_29
        · rw [fcT, if_pos c_4, cl_nI (by omega), if_pos c_22]
          exact h_30
        · rw [feedN, if_pos c_4, cl_nI (by omega), if_pos c_22]
          exact h_29
    · (try dsimp only [Gs_M] at c_8)
      refine r_iconst (v := (-1)) dX11_feed_11 (by decide) ?_
      refine r_iret dX11_feed_12 rfl (Nat.le_refl _) ?_
      (try dsimp only [Gs_M])
      refine ⟨_, rfl, ?_, fr.rf, ?_, ?_⟩
      · rw [feedX, if_neg (fun z => c_8 z.2)]
      · rw [fcT, if_neg (fun z => c_8 z.2)]
        rfl
      · rw [feedN, if_neg (fun z => c_8 z.2)]
        exact en
def compT (S : pS) (n : Nat) : tT := telR S n
def compX (T : tT) (W : Nat → Int32) : Int32 := if T.2.2 = -1 then T.1 6 else -100 - T.2.2
def compW (T : tT) (W : Nat → Int32) : Nat → Int32 := if T.2.2 = -1 then upd T.1 5 (W 5) else W
def compN (T : tT) (r : Int32) : Int32 := if T.2.2 = -1 then 0 else r
abbrev LE : List Nat := [0, 1, 2, 3, 4, 5, 6, 7, 10, 11, 12, 13, 14, 15, 16, 29]
set_option maxRecDepth 20000 in
set_option maxHeartbeats 1000000 in
theorem s_X11_company (g : pG) {S : pS} (hS : sOk S) {n : Nat} (hn : n ≤ 200) (en : S.2.2.2 29 1 = nI n) (hI : InvR (vw S 10)) : MS g mX11_company 9 0 0 [.ref 0] (S) (eI (fun rx S1 => rx = compX (telR (S) n) (vw (S) 1) ∧ fr LE (S) S1 ∧ sOk S1 ∧ vw S1 1 = compW (telR (S) n) (vw (S) 1) ∧ S1.2.2.2 29 1 = 0 ∧ S1.2.2.2 0 8 = compN (telR (S) n) ((S).2.2.2 0 8) ∧ S1.2.2.2 0 3 = (S).2.2.2 0 3 ∧ ∃ z, vw S1 10 = upd (telR (S) n).1 5 z)) := by
  obtain ⟨M0, rfl⟩ := sOk_gs hS
  have en : M0 29 1 = nI n := en
  refine MS.of pn_X11 (Nat.le_of_ble_eq_true rfl) ?_
  refine r_aload_n dX11_company_0 rfl rfl ?_
  refine r_getR (q := 29) dX11_company_1 (ci := 11) (kf := 5) rfl (Nat.le_of_ble_eq_true rfl) (by decide) (by decide) rfl fl_X11_34 (Or.inl rfl) rfl ?_
  refine r_aload_n dX11_company_4 rfl rfl ?_
  refine r_getR (q := 10) dX11_company_5 (ci := 11) (kf := 1) rfl (Nat.le_of_ble_eq_true rfl) (by decide) (by decide) rfl fl_X11_16 (Or.inl rfl) rfl ?_
  refine r_callV_eI (ci := 8) dX11_company_8 (s_X8_tell g hS hn en hI) mf_X8_tell mi_X8_tell se_X8_X8_X8_tell ml_X11_100 rfl rfl (Nat.le_of_ble_eq_true rfl) rfl (by decide) rfl (Nat.le_of_ble_eq_true rfl) ⟨(Nat.le_of_ble_eq_true rfl), (Nat.le_of_ble_eq_true rfl)⟩ ⟨(Nat.le_of_ble_eq_true rfl), (Nat.le_of_ble_eq_true rfl)⟩ (fun r_8 S_8 q_8 z_8 => ?_)
  obtain ⟨e_8, f_8, hS8, v_8, h_29⟩ := q_8
  obtain ⟨Ma, rfl⟩ := sOk_gs hS8
  have w_8 : vw (mSet (Gs Ma) 29 1 0) 1 = vw (Gs M0) 1 := (vw_ne (by omega)).trans (f_8.vw (by decide))
  obtain ⟨T, eT⟩ : ∃ T, telR (Gs M0) n = T := ⟨_, rfl⟩
  rw [eT] at e_8 v_8 ⊢
  refine r_istore_n dX11_company_11 rfl (by decide) ?_
  refine r_aload_n dX11_company_12 rfl rfl ?_
  refine r_getR (q := 29) dX11_company_13 (ci := 11) (kf := 5) rfl (Nat.le_of_ble_eq_true rfl) (by decide) (by decide) rfl fl_X11_34 (Or.inl rfl) rfl ?_
  refine r_iconst (v := 0) dX11_company_16 (by decide) ?_
  refine r_putI dX11_company_17 (ci := 8) (kf := 1) rfl (Nat.le_of_ble_eq_true rfl) (by decide) (by decide) rfl fl_X11_96 (Or.inl rfl) rfl rfl rfl ?_
  refine r_iload_n dX11_company_20 rfl rfl ?_
  refine r_iconst (v := (-1)) dX11_company_21 (by decide) ?_
  refine r_icmp_eq (tgt := 30) dX11_company_22 (by decide) (fun c_22 => ?_) (fun c_22 => ?_)
  · (try dsimp only [Gs_M] at c_22)
    refine r_aload_n dX11_company_30 rfl rfl ?_
    refine r_getR (q := 10) dX11_company_31 (ci := 11) (kf := 1) rfl (Nat.le_of_ble_eq_true rfl) (by decide) (by decide) rfl fl_X11_16 (Or.inl rfl) rfl ?_
    refine r_aload_n dX11_company_34 rfl rfl ?_
    refine r_getR (q := 1) dX11_company_35 (ci := 11) (kf := 0) rfl (Nat.le_of_ble_eq_true rfl) (by decide) (by decide) rfl fl_X11_10 (Or.inl rfl) rfl ?_
    refine r_getI dX11_company_38 (ci := 0) (kf := 9) rfl (Nat.le_of_ble_eq_true rfl) (by decide) (by decide) rfl fl_X11_104 (Or.inl rfl) ?_
    refine r_putI dX11_company_41 (ci := 0) (kf := 9) rfl (Nat.le_of_ble_eq_true rfl) (by decide) (by decide) rfl fl_X11_104 (Or.inl rfl) rfl rfl rfl ?_
    refine r_aload_n dX11_company_44 rfl rfl ?_
    refine r_getR (q := 1) dX11_company_45 (ci := 11) (kf := 0) rfl (Nat.le_of_ble_eq_true rfl) (by decide) (by decide) rfl fl_X11_10 (Or.inl rfl) rfl ?_
    refine r_aload_n dX11_company_48 rfl rfl ?_
    refine r_getR (q := 10) dX11_company_49 (ci := 11) (kf := 1) rfl (Nat.le_of_ble_eq_true rfl) (by decide) (by decide) rfl fl_X11_16 (Or.inl rfl) rfl ?_
    refine r_callV_eV (ci := 0) dX11_company_52 (s_X0_copyFrom g (S := (mSet (mSet (Gs Ma) 29 1 0) 10 9 ((mSet (Gs Ma) 29 1 0).2.2.2 1 9))) (CoG (Or.inl rfl)) (CoG (Or.inr (Or.inl rfl))) (Or.inr (by decide))) mf_X0_copyFrom mi_X0_copyFrom se_X0_X0_X0_copyFrom ml_X11_107 rfl rfl (Nat.le_of_ble_eq_true rfl) rfl (by decide) rfl (Nat.le_of_ble_eq_true rfl) ⟨(Nat.le_of_ble_eq_true rfl), (Nat.le_of_ble_eq_true rfl)⟩ ⟨(Nat.le_of_ble_eq_true rfl), (Nat.le_of_ble_eq_true rfl)⟩ (fun S_52 q_52 z_52 => ?_)
    obtain ⟨f_52, v_52⟩ := q_52
    have g_52 : fr LE (Gs M0) S_52 := (((f_8.mono (by decide)).set (by decide)).set (by decide)).tr (f_52.mono (by decide))
    obtain ⟨Mb, rfl⟩ := sOk_gs (g_52.ok ⟨rfl, rfl, rfl⟩)
    refine r_aload_n dX11_company_55 rfl rfl ?_
    refine r_iconst (v := 0) dX11_company_56 (by decide) ?_
    refine r_putI dX11_company_57 (ci := 11) (kf := 8) rfl (Nat.le_of_ble_eq_true rfl) (by decide) (by decide) rfl fl_X11_111 (Or.inl rfl) rfl rfl rfl ?_
    refine r_aload_n dX11_company_60 rfl rfl ?_
    refine r_getR (q := 1) dX11_company_61 (ci := 11) (kf := 0) rfl (Nat.le_of_ble_eq_true rfl) (by decide) (by decide) rfl fl_X11_10 (Or.inl rfl) rfl ?_
    refine r_getI dX11_company_64 (ci := 0) (kf := 6) rfl (Nat.le_of_ble_eq_true rfl) (by decide) (by decide) rfl fl_X11_114 (Or.inl rfl) ?_
    refine r_iret dX11_company_67 rfl (Nat.le_refl _) ?_
    (try dsimp only [Gs_M])
    rw [e_8] at c_22
    have hw : vw (mSet (Gs Mb) 0 8 0) 1 = upd T.1 5 (vw (Gs M0) 1 5) := by
      rw [vw_ne (by omega), v_52, vs_5, vw_ne (by omega), v_8, ← w_8]
      rfl
    refine ⟨_, rfl, ?_, g_52.set (by decide), ⟨rfl, rfl, rfl⟩, ?_, ?_, ?_, ?_, (mSet (Gs Ma) 29 1 0).2.2.2 1 9, ?_⟩
    · rw [compX, if_pos c_22]
      exact congrFun hw 6
    · rw [compW, if_pos c_22, hw]
    · rw [mSet_ne (by decide), f_52.2 29 (by decide), mSet_ne (by decide), mSet_at, pk_us]
    · rw [compN, if_pos c_22, mSet_at, pk_us]
    · rw [mSet_at, pk_un (by decide), f_52.2 0 (by decide), mSet_ne (by decide), mSet_ne (by decide)]
      exact congrFun (f_8.2 0 (by decide)) 3
    · rw [vw_ne (by omega), f_52.vw (fun c hc => by simp [frl]; omega), vs_5, vw_ne (by omega), v_8]
  · (try dsimp only [Gs_M] at c_22)
    refine r_bipush (v := (-100)) dX11_company_25 (by decide) ?_
    refine r_iload_n dX11_company_27 rfl rfl ?_
    refine r_isub dX11_company_28 ?_
    refine r_iret dX11_company_29 rfl (Nat.le_refl _) ?_
    (try dsimp only [Gs_M])
    rw [e_8] at c_22
    refine ⟨_, rfl, ?_, (f_8.mono (by decide)).set (by decide), ⟨rfl, rfl, rfl⟩, ?_, ?_, ?_, ?_, T.1 5, ?_⟩
    · rw [compX, if_neg c_22, ← e_8]
    · rw [compW, if_neg c_22]
      exact w_8
    · rw [mSet_at, pk_us]
    · rw [compN, if_neg c_22, mSet_ne (by decide)]
      exact congrFun (f_8.2 0 (by decide)) 8
    · rw [mSet_ne (by decide)]
      exact congrFun (f_8.2 0 (by decide)) 3
    · rw [vw_ne (by omega), v_8]
      exact upd_self.symm
