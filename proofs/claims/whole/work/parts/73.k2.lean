theorem rg1 {x hi : Int32} (n : Nat) (hM : hi.toInt = (n : Int)) (h1 : ¬ x < 1) (h2 : x ≤ hi) : ∃ j, 1 ≤ j ∧ j ≤ n ∧ x = nI j := by
  have h1 := Int32.not_lt.mp h1
  obtain ⟨j, hj, e⟩ := rng (x := x) n hM ⟨Int32.le_trans (by decide) h1, h2⟩
  refine ⟨j, ?_, hj, e⟩
  rcases Nat.eq_zero_or_pos j with z | z
  · rw [e, z] at h1
    exact absurd h1 (by decide)
  · exact z
theorem movR_cong2 {W r r' : Nat → Int32} {m : Nat} (hr : ∀ x, x < m → r x = r' x) : ∀ n, n ≤ m → movR W r n = movR W r' n
  | 0, _ => rfl
  | n + 1, hn => by rw [movR, movR, movR_cong2 hr n (by omega), hr n (by omega)]
def nigX (W : Nat → Int32) (n : Int32) : Int32 := if 1 ≤ n ∧ n ≤ 60 then goC W (cl n) 7 else -1
def nigW (W : Nat → Int32) (n : Int32) : Nat → Int32 := if 1 ≤ n ∧ n ≤ 60 then goC W (cl n) else W
set_option maxRecDepth 20000 in
set_option maxHeartbeats 1000000 in
theorem s_X11_nights (g : pG) {S : pS} (hS : sOk S) (hI : InvR (vw S 1)) (hN : InvN (vw S 1)) (n : Int32) : MS g mX11_nights 5 0 0 [.ref 0, .int n] (S) (eI (fun rx S1 => rx = nigX (vw (S) 1) n ∧ fr [1, 6, 7, 8, 9] (S) S1 ∧ vw S1 1 = nigW (vw (S) 1) n)) := by
  obtain ⟨M0, rfl⟩ := sOk_gs hS
  obtain ⟨h8, hpl⟩ := hI.pl
  refine MS.of pn_X11 (Nat.le_of_ble_eq_true rfl) ?_
  refine r_iload_n dX11_nights_0 rfl rfl ?_
  refine r_iconst (v := 1) dX11_nights_1 (by decide) ?_
  refine r_icmp_lt (tgt := 11) dX11_nights_2 (by decide) (fun c_2 => ?_) (fun c_2 => ?_)
  · (try dsimp only [Gs_M] at c_2)
    refine r_iconst (v := (-1)) dX11_nights_11 (by decide) ?_
    refine r_iret dX11_nights_12 rfl (Nat.le_refl _) ?_
    (try dsimp only [Gs_M])
    refine ⟨_, rfl, ?_, fr.rf, ?_⟩
    · rw [nigX, if_neg (fun z => Int32.not_lt.mpr z.1 c_2)]
    · rw [nigW, if_neg (fun z => Int32.not_lt.mpr z.1 c_2)]
  · (try dsimp only [Gs_M] at c_2)
    refine r_iload_n dX11_nights_5 rfl rfl ?_
    refine r_bipush (v := 60) dX11_nights_6 (by decide) ?_
    refine r_icmp_le (tgt := 13) dX11_nights_8 (by decide) (fun c_8 => ?_) (fun c_8 => ?_)
    · (try dsimp only [Gs_M] at c_8)
      obtain ⟨m, hm1, hm, rfl⟩ := rg1 (x := n) 60 (by decide) c_2 c_8
      refine r_iconst (v := 0) dX11_nights_13 (by decide) ?_
      refine r_istore_n dX11_nights_14 rfl (by decide) ?_
      have lp : ∀ (j_ : Nat) (i : Nat) (S1 : pS) (ok : sOk S1) (hk : fr [1, 6, 7, 8, 9] (Gs M0) S1) (hv : vw S1 1 = goC (vw (Gs M0) 1) i) (hi : i ≤ m), m - i < j_ → PW g mX11_nights (eN g (Gs M0).1 5 0 0 (eI (fun rx S1 => rx = nigX (vw (Gs M0) 1) (nI m) ∧ fr [1, 6, 7, 8, 9] (Gs M0) S1 ∧ vw S1 1 = nigW (vw (Gs M0) 1) (nI m)))) 15 [some (.ref 0), some (.int (nI m)), some (.int (nI i))] [] (S1) 0 0 := by
        intro j_
        induction j_ with
        | zero => intro i S1 ok hk hv hi hj; exact absurd hj (Nat.not_lt_zero _)
        | succ j_ ih =>
          intro i S1 ok hk hv hi hj
          obtain ⟨M, rfl⟩ := sOk_gs ok
          have hI1 : InvR (vw (Gs M) 1) := hv ▸ goC_inv hI i
          have hN1 : InvN (vw (Gs M) 1) := hv ▸ goC_N hN i
          refine r_iload_n dX11_nights_15 rfl rfl ?_
          refine r_iload_n dX11_nights_16 rfl rfl ?_
          refine r_icmp_geN (i) (m) (tgt := 34) dX11_nights_17 (by decide) (by omega) (by omega) (fun c_17 => ?_) (fun c_17 => ?_)
          · (try dsimp only [Gs_M] at c_17)
            refine r_aload_n dX11_nights_34 rfl rfl ?_
            refine r_getR (q := 1) dX11_nights_35 (ci := 11) (kf := 0) rfl (Nat.le_of_ble_eq_true rfl) (by decide) (by decide) rfl fl_X11_10 (Or.inl rfl) rfl ?_
            refine r_getI dX11_nights_38 (ci := 0) (kf := 8) rfl (Nat.le_of_ble_eq_true rfl) (by decide) (by decide) rfl fl_X11_185 (Or.inl rfl) ?_
            refine r_iret dX11_nights_41 rfl (Nat.le_refl _) ?_
            (try dsimp only [Gs_M])
            have ei : i = m := by omega
            subst ei
            have hmm : 1 ≤ nI i ∧ nI i ≤ 60 := ⟨Int32.not_lt.mp c_2, c_8⟩
            refine ⟨_, rfl, ?_, hk, ?_⟩
            · rw [nigX, if_pos hmm, cl_nI (by omega), ← hv]
              rfl
            · rw [nigW, if_pos hmm, cl_nI (by omega)]
              exact hv
          · (try dsimp only [Gs_M] at c_17)
            refine r_aload_n dX11_nights_20 rfl rfl ?_
            refine r_getR (q := 1) dX11_nights_21 (ci := 11) (kf := 0) rfl (Nat.le_of_ble_eq_true rfl) (by decide) (by decide) rfl fl_X11_10 (Or.inl rfl) rfl ?_
            refine r_callV_eI (ci := 0) dX11_nights_24 (s_X0_playNight g (CoG (Or.inl rfl)) hI1 hN1) mf_X0_playNight mi_X0_playNight se_X0_X0_X0_playNight ml_X11_181 rfl rfl (Nat.le_of_ble_eq_true rfl) rfl (by decide) rfl (Nat.le_of_ble_eq_true rfl) ⟨(Nat.le_of_ble_eq_true rfl), (Nat.le_of_ble_eq_true rfl)⟩ ⟨(Nat.le_of_ble_eq_true rfl), (Nat.le_of_ble_eq_true rfl)⟩ (fun r_24 S_24 q_24 z_24 => ?_)
            obtain ⟨-, f24, v24, -, -⟩ := q_24
            have ok24 := f24.ok ok
            refine r_pop dX11_nights_27 rfl ?_
            refine r_iinc (v := nI (i + 1)) dX11_nights_28 rfl (nI_1 _) (by decide) ?_
            refine r_goto (tgt := 15) dX11_nights_31 (by decide) ?_
            exact PW.subL (ih (i + 1) _ ok24 (hk.tr f24) (by rw [v24, goC, ← hv]) (by omega) (by omega)) (by repeat' first | exact True.intro | refine And.intro rfl ?_)
      exact PW.subL (lp (m + 1) 0 _ hS fr.rf goC_0.symm (by omega) (by omega)) (by repeat' first | exact True.intro | refine And.intro rfl ?_)
    · (try dsimp only [Gs_M] at c_8)
      refine r_iconst (v := (-1)) dX11_nights_11 (by decide) ?_
      refine r_iret dX11_nights_12 rfl (Nat.le_refl _) ?_
      (try dsimp only [Gs_M])
      refine ⟨_, rfl, ?_, fr.rf, ?_⟩
      · rw [nigX, if_neg (fun z => c_8 z.2)]
      · rw [nigW, if_neg (fun z => c_8 z.2)]
set_option maxRecDepth 20000 in
set_option maxHeartbeats 1000000 in
theorem s_X11_night (g : pG) {S : pS} (hS : sOk S) (hI : InvR (vw S 1)) (hN : InvN (vw S 1)) : MS g mX11_night 5 0 0 [.ref 0] (S) (eI (fun rx S1 => rx = showB (thrR (vw (S) 1)) ∧ fr [1, 6, 7, 8, 9] (S) S1 ∧ vw S1 1 = nightC (thrR (vw (S) 1)))) := by
  obtain ⟨M0, rfl⟩ := sOk_gs hS
  obtain ⟨h8, hpl⟩ := hI.pl
  refine MS.of pn_X11 (Nat.le_of_ble_eq_true rfl) ?_
  refine r_aload_n dX11_night_0 rfl rfl ?_
  refine r_getR (q := 1) dX11_night_1 (ci := 11) (kf := 0) rfl (Nat.le_of_ble_eq_true rfl) (by decide) (by decide) rfl fl_X11_10 (Or.inl rfl) rfl ?_
  refine r_callV_eV (ci := 0) dX11_night_4 (s_X0_drawThroat g (CoG (Or.inl rfl)) hI) mf_X0_drawThroat mi_X0_drawThroat se_X0_X0_X0_drawThroat ml_X11_188 rfl rfl (Nat.le_of_ble_eq_true rfl) rfl (by decide) rfl (Nat.le_of_ble_eq_true rfl) ⟨(Nat.le_of_ble_eq_true rfl), (Nat.le_of_ble_eq_true rfl)⟩ ⟨(Nat.le_of_ble_eq_true rfl), (Nat.le_of_ble_eq_true rfl)⟩ (fun S_4 q_4 z_4 => ?_)
  obtain ⟨f4, v4⟩ := q_4
  obtain ⟨Ma, rfl⟩ := sOk_gs (f4.ok hS)
  refine r_aload_n dX11_night_7 rfl rfl ?_
  refine r_getR (q := 1) dX11_night_8 (ci := 11) (kf := 0) rfl (Nat.le_of_ble_eq_true rfl) (by decide) (by decide) rfl fl_X11_10 (Or.inl rfl) rfl ?_
  refine r_callV_eI (ci := 0) dX11_night_11 (s_X0_playNight g (CoG (Or.inl rfl)) (v4 ▸ thrR_inv hI) (v4 ▸ thrR_N hN hI)) mf_X0_playNight mi_X0_playNight se_X0_X0_X0_playNight ml_X11_181 rfl rfl (Nat.le_of_ble_eq_true rfl) rfl (by decide) rfl (Nat.le_of_ble_eq_true rfl) ⟨(Nat.le_of_ble_eq_true rfl), (Nat.le_of_ble_eq_true rfl)⟩ ⟨(Nat.le_of_ble_eq_true rfl), (Nat.le_of_ble_eq_true rfl)⟩ (fun r_11 S_11 q_11 z_11 => ?_)
  obtain ⟨x11, f11, v11, -, -⟩ := q_11
  refine r_iret dX11_night_14 rfl (Nat.le_refl _) ?_
  (try dsimp only [Gs_M])
  rw [v4] at x11 v11
  exact ⟨_, rfl, x11, (f4.mono (by decide)).tr f11, v11⟩
set_option maxRecDepth 20000 in
set_option maxHeartbeats 1000000 in
theorem s_X11_spoilt (g : pG) {S : pS} (hS : sOk S) (hI : InvR (vw S 1)) (hN : InvN (vw S 1)) (n : Int32) : MS g mX11_spoilt 6 0 0 [.ref 0, .int n] (S) (eI (fun rx S1 => rx = spoiltX (vw (S) 1) n ∧ fT LT (S) S1)) := by
  obtain ⟨M0, rfl⟩ := sOk_gs hS
  obtain ⟨h8, hpl⟩ := hI.pl
  refine MS.of pn_X11 (Nat.le_of_ble_eq_true rfl) ?_
  refine r_iload_n dX11_spoilt_0 rfl rfl ?_
  refine r_iconst (v := 1) dX11_spoilt_1 (by decide) ?_
  refine r_icmp_lt (tgt := 22) dX11_spoilt_2 (by decide) (fun c_2 => ?_) (fun c_2 => ?_)
  · (try dsimp only [Gs_M] at c_2)
    refine r_iconst (v := (-1)) dX11_spoilt_22 (by decide) ?_
    refine r_iret dX11_spoilt_23 rfl (Nat.le_refl _) ?_
    (try dsimp only [Gs_M])
    refine ⟨_, rfl, ?_, fT.rf⟩
    · rw [spoiltX, if_neg (fun z => Int32.not_lt.mpr z.1 c_2)]
  · (try dsimp only [Gs_M] at c_2)
    refine r_iload_n dX11_spoilt_5 rfl rfl ?_
    refine r_bipush (v := 30) dX11_spoilt_6 (by decide) ?_
    refine r_icmp_gt (tgt := 22) dX11_spoilt_8 (by decide) (fun c_8 => ?_) (fun c_8 => ?_)
    · (try dsimp only [Gs_M] at c_8)
      refine r_iconst (v := (-1)) dX11_spoilt_22 (by decide) ?_
      refine r_iret dX11_spoilt_23 rfl (Nat.le_refl _) ?_
      (try dsimp only [Gs_M])
      refine ⟨_, rfl, ?_, fT.rf⟩
      · rw [spoiltX, if_neg (fun z => Int32.not_lt.mpr z.2 c_8)]
    · (try dsimp only [Gs_M] at c_8)
      obtain ⟨m, hm1, hm, rfl⟩ := rg1 (x := n) 30 (by decide) c_2 (Int32.not_lt.mp c_8)
      refine r_aload_n dX11_spoilt_11 rfl rfl ?_
      refine r_getR (q := 28) dX11_spoilt_12 (ci := 11) (kf := 4) rfl (Nat.le_of_ble_eq_true rfl) (by decide) (by decide) rfl fl_X11_27 (Or.inl rfl) rfl ?_
      refine r_iload_n dX11_spoilt_15 rfl rfl ?_
      refine r_callV_eI (ci := 10) dX11_spoilt_16 (s_X10_spoiltOf g hS hI hN (m) (by omega)) mf_X10_spoiltOf mi_X10_spoiltOf se_X10_X10_X10_spoiltOf ml_X11_191 rfl rfl (Nat.le_of_ble_eq_true rfl) rfl (by decide) rfl (Nat.le_of_ble_eq_true rfl) ⟨(Nat.le_of_ble_eq_true rfl), (Nat.le_of_ble_eq_true rfl)⟩ ⟨(Nat.le_of_ble_eq_true rfl), (Nat.le_of_ble_eq_true rfl)⟩ (fun r_16 S_16 q_16 z_16 => ?_)
      obtain ⟨x16, f16, ok16⟩ := q_16
      refine r_goto (tgt := 23) dX11_spoilt_19 (by decide) ?_
      refine r_iret dX11_spoilt_23 rfl (Nat.le_refl _) ?_
      (try dsimp only [Gs_M])
      exact ⟨_, rfl, by rw [spoiltX, if_pos (⟨Int32.not_lt.mp c_2, Int32.not_lt.mp c_8⟩), cl_nI (by omega)]; exact x16, f16⟩
set_option maxRecDepth 20000 in
set_option maxHeartbeats 1000000 in
theorem s_X11_earned (g : pG) {S : pS} (hS : sOk S) (hI : InvR (vw S 1)) (hN : InvN (vw S 1)) (n : Int32) : MS g mX11_earned 7 0 0 [.ref 0, .int n] (S) (eI (fun rx S1 => rx = earnedX (vw (S) 1) n ∧ fT LT (S) S1)) := by
  obtain ⟨M0, rfl⟩ := sOk_gs hS
  obtain ⟨h8, hpl⟩ := hI.pl
  refine MS.of pn_X11 (Nat.le_of_ble_eq_true rfl) ?_
  refine r_iload_n dX11_earned_0 rfl rfl ?_
  refine r_if_lt (tgt := 21) dX11_earned_1 (by decide) (fun c_1 => ?_) (fun c_1 => ?_)
  · (try dsimp only [Gs_M] at c_1)
    refine r_iconst (v := (-1)) dX11_earned_21 (by decide) ?_
    refine r_iret dX11_earned_22 rfl (Nat.le_refl _) ?_
    (try dsimp only [Gs_M])
    refine ⟨_, rfl, ?_, fT.rf⟩
    · rw [earnedX, if_neg (fun z => Int32.not_lt.mpr z.1 c_1)]
  · (try dsimp only [Gs_M] at c_1)
    refine r_iload_n dX11_earned_4 rfl rfl ?_
    refine r_bipush (v := 60) dX11_earned_5 (by decide) ?_
    refine r_icmp_gt (tgt := 21) dX11_earned_7 (by decide) (fun c_7 => ?_) (fun c_7 => ?_)
    · (try dsimp only [Gs_M] at c_7)
      refine r_iconst (v := (-1)) dX11_earned_21 (by decide) ?_
      refine r_iret dX11_earned_22 rfl (Nat.le_refl _) ?_
      (try dsimp only [Gs_M])
      refine ⟨_, rfl, ?_, fT.rf⟩
      · rw [earnedX, if_neg (fun z => Int32.not_lt.mpr z.2 c_7)]
    · (try dsimp only [Gs_M] at c_7)
      obtain ⟨m, hm, rfl⟩ := rng (x := n) 60 (by decide) ⟨Int32.not_lt.mp c_1, Int32.not_lt.mp c_7⟩
      refine r_aload_n dX11_earned_10 rfl rfl ?_
      refine r_getR (q := 28) dX11_earned_11 (ci := 11) (kf := 4) rfl (Nat.le_of_ble_eq_true rfl) (by decide) (by decide) rfl fl_X11_27 (Or.inl rfl) rfl ?_
      refine r_iload_n dX11_earned_14 rfl rfl ?_
      refine r_callV_eI (ci := 10) dX11_earned_15 (s_X10_takenBehind g hS hI hN (m) (by omega)) mf_X10_takenBehind mi_X10_takenBehind se_X10_X10_X10_takenBehind ml_X11_213 rfl rfl (Nat.le_of_ble_eq_true rfl) rfl (by decide) rfl (Nat.le_of_ble_eq_true rfl) ⟨(Nat.le_of_ble_eq_true rfl), (Nat.le_of_ble_eq_true rfl)⟩ ⟨(Nat.le_of_ble_eq_true rfl), (Nat.le_of_ble_eq_true rfl)⟩ (fun r_15 S_15 q_15 z_15 => ?_)
      obtain ⟨x15, f15, ok15⟩ := q_15
      refine r_goto (tgt := 22) dX11_earned_18 (by decide) ?_
      refine r_iret dX11_earned_22 rfl (Nat.le_refl _) ?_
      (try dsimp only [Gs_M])
      exact ⟨_, rfl, by rw [earnedX, if_pos (⟨Int32.not_lt.mp c_1, Int32.not_lt.mp c_7⟩), cl_nI (by omega)]; exact x15, f15⟩
set_option maxRecDepth 20000 in
set_option maxHeartbeats 1000000 in
theorem s_X11_knew (g : pG) {S : pS} (hS : sOk S) (hI : InvR (vw S 1)) (hN : InvN (vw S 1)) (x : Int32) (p : Int32) (n : Int32) : MS g mX11_knew 7 0 0 [.ref 0, .int x, .int p, .int n] (S) (eI (fun rx S1 => rx = knewX (vw (S) 1) x p n ∧ fT LT (S) S1)) := by
  obtain ⟨M0, rfl⟩ := sOk_gs hS
  obtain ⟨h8, hpl⟩ := hI.pl
  refine MS.of pn_X11 (Nat.le_of_ble_eq_true rfl) ?_
  refine r_aload_n dX11_knew_0 rfl rfl ?_
  refine r_iload_n dX11_knew_1 rfl rfl ?_
  refine r_callV_dI (ci := 11) dX11_knew_2 (s_X11_isPlayer g hS hI _) mf_X11_isPlayer mi_X11_isPlayer se_X11_X11_X11_isPlayer ml_X11_150 rfl rfl (Nat.le_of_ble_eq_true rfl) rfl (by decide) rfl (Nat.le_of_ble_eq_true rfl) ⟨(Nat.le_of_ble_eq_true rfl), (Nat.le_of_ble_eq_true rfl)⟩ ⟨(Nat.le_of_ble_eq_true rfl), (Nat.le_of_ble_eq_true rfl)⟩ ?_
  refine r_if_eq (tgt := 25) dX11_knew_5 (by decide) (fun c_5 => ?_) (fun c_5 => ?_)
  · have c_5 := bI_0 c_5
    (try dsimp only [Gs_M] at c_5)
    refine r_iconst (v := (-1)) dX11_knew_25 (by decide) ?_
    refine r_iret dX11_knew_26 rfl (Nat.le_refl _) ?_
    (try dsimp only [Gs_M])
    refine ⟨_, rfl, ?_, fT.rf⟩
    · rw [knewX, if_neg (fun z => c_5 z.1)]
  · have c_5 := bI_n c_5
    (try dsimp only [Gs_M] at c_5)
    refine r_iload_n dX11_knew_8 rfl rfl ?_
    refine r_callS_dI dX11_knew_9 (s_X11_isPart g _ _) mf_X11_isPart mt_X11_isPart ml_X11_127 rfl rfl (Nat.le_of_ble_eq_true rfl) ⟨(Nat.le_of_ble_eq_true rfl), (Nat.le_of_ble_eq_true rfl)⟩ ⟨(Nat.le_of_ble_eq_true rfl), (Nat.le_of_ble_eq_true rfl)⟩ ?_
    refine r_if_eq (tgt := 25) dX11_knew_12 (by decide) (fun c_12 => ?_) (fun c_12 => ?_)
    · have c_12 := bI_0 c_12
      (try dsimp only [Gs_M] at c_12)
      refine r_iconst (v := (-1)) dX11_knew_25 (by decide) ?_
      refine r_iret dX11_knew_26 rfl (Nat.le_refl _) ?_
      (try dsimp only [Gs_M])
      refine ⟨_, rfl, ?_, fT.rf⟩
      · rw [knewX, if_neg (fun z => c_12 z.2.1)]
    · have c_12 := bI_n c_12
      (try dsimp only [Gs_M] at c_12)
      refine r_iload_n dX11_knew_15 rfl rfl ?_
      refine r_if_lt (tgt := 25) dX11_knew_16 (by decide) (fun c_16 => ?_) (fun c_16 => ?_)
      · (try dsimp only [Gs_M] at c_16)
        refine r_iconst (v := (-1)) dX11_knew_25 (by decide) ?_
        refine r_iret dX11_knew_26 rfl (Nat.le_refl _) ?_
        (try dsimp only [Gs_M])
        refine ⟨_, rfl, ?_, fT.rf⟩
        · rw [knewX, if_neg (fun z => Int32.not_lt.mpr z.2.2.1 c_16)]
      · (try dsimp only [Gs_M] at c_16)
        refine r_iload_n dX11_knew_19 rfl rfl ?_
        refine r_bipush (v := 60) dX11_knew_20 (by decide) ?_
        refine r_icmp_le (tgt := 27) dX11_knew_22 (by decide) (fun c_22 => ?_) (fun c_22 => ?_)
        · (try dsimp only [Gs_M] at c_22)
          obtain ⟨k, hk, rfl⟩ := rngP (x := x) c_5 h8 hpl
          obtain ⟨j, hj, rfl⟩ := rng (x := p) 7 (by decide) c_12
          obtain ⟨m, hm, rfl⟩ := rng (x := n) 60 (by decide) ⟨Int32.not_lt.mp c_16, c_22⟩
          refine r_aload_n dX11_knew_27 rfl rfl ?_
          refine r_getR (q := 28) dX11_knew_28 (ci := 11) (kf := 4) rfl (Nat.le_of_ble_eq_true rfl) (by decide) (by decide) rfl fl_X11_27 (Or.inl rfl) rfl ?_
          refine r_iload_n dX11_knew_31 rfl rfl ?_
          refine r_iload_n dX11_knew_32 rfl rfl ?_
          refine r_iload_n dX11_knew_33 rfl rfl ?_
          refine r_callV_eI (ci := 10) dX11_knew_34 (s_X10_knowingBehind g hS hI hN (k) (j) (m) hk (by omega) (by omega)) mf_X10_knowingBehind mi_X10_knowingBehind se_X10_X10_X10_knowingBehind ml_X11_209 rfl rfl (Nat.le_of_ble_eq_true rfl) rfl (by decide) rfl (Nat.le_of_ble_eq_true rfl) ⟨(Nat.le_of_ble_eq_true rfl), (Nat.le_of_ble_eq_true rfl)⟩ ⟨(Nat.le_of_ble_eq_true rfl), (Nat.le_of_ble_eq_true rfl)⟩ (fun r_34 S_34 q_34 z_34 => ?_)
          obtain ⟨x34, f34, ok34⟩ := q_34
          refine r_iret dX11_knew_37 rfl (Nat.le_refl _) ?_
          (try dsimp only [Gs_M])
          exact ⟨_, rfl, by rw [knewX, if_pos (⟨c_5, c_12, ⟨Int32.not_lt.mp c_16, c_22⟩⟩), cl_nI (by omega), cl_nI (by omega), cl_nI (by omega)]; exact x34, f34⟩
        · (try dsimp only [Gs_M] at c_22)
          refine r_iconst (v := (-1)) dX11_knew_25 (by decide) ?_
          refine r_iret dX11_knew_26 rfl (Nat.le_refl _) ?_
          (try dsimp only [Gs_M])
          refine ⟨_, rfl, ?_, fT.rf⟩
          · rw [knewX, if_neg (fun z => c_22 z.2.2.2)]
set_option maxRecDepth 20000 in
set_option maxHeartbeats 1000000 in
theorem s_X11_plays (g : pG) {S : pS} (hS : sOk S) (hI : InvR (vw S 1)) (hN : InvN (vw S 1)) (x : Int32) (p : Int32) : MS g mX11_plays 6 0 0 [.ref 0, .int x, .int p] (S) (eI (fun rx S1 => rx = playsX (vw (S) 1) x p ∧ fT LT (S) S1)) := by
  obtain ⟨M0, rfl⟩ := sOk_gs hS
  obtain ⟨h8, hpl⟩ := hI.pl
  refine MS.of pn_X11 (Nat.le_of_ble_eq_true rfl) ?_
  refine r_aload_n dX11_plays_0 rfl rfl ?_
  refine r_iload_n dX11_plays_1 rfl rfl ?_
  refine r_callV_dI (ci := 11) dX11_plays_2 (s_X11_isPlayer g hS hI _) mf_X11_isPlayer mi_X11_isPlayer se_X11_X11_X11_isPlayer ml_X11_150 rfl rfl (Nat.le_of_ble_eq_true rfl) rfl (by decide) rfl (Nat.le_of_ble_eq_true rfl) ⟨(Nat.le_of_ble_eq_true rfl), (Nat.le_of_ble_eq_true rfl)⟩ ⟨(Nat.le_of_ble_eq_true rfl), (Nat.le_of_ble_eq_true rfl)⟩ ?_
  refine r_if_eq (tgt := 27) dX11_plays_5 (by decide) (fun c_5 => ?_) (fun c_5 => ?_)
  · have c_5 := bI_0 c_5
    (try dsimp only [Gs_M] at c_5)
    refine r_iconst (v := (-1)) dX11_plays_27 (by decide) ?_
    refine r_iret dX11_plays_28 rfl (Nat.le_refl _) ?_
    (try dsimp only [Gs_M])
    refine ⟨_, rfl, ?_, fT.rf⟩
    · rw [playsX, if_neg (fun z => c_5 z.1)]
  · have c_5 := bI_n c_5
    (try dsimp only [Gs_M] at c_5)
    refine r_iload_n dX11_plays_8 rfl rfl ?_
    refine r_callS_dI dX11_plays_9 (s_X11_isPart g _ _) mf_X11_isPart mt_X11_isPart ml_X11_127 rfl rfl (Nat.le_of_ble_eq_true rfl) ⟨(Nat.le_of_ble_eq_true rfl), (Nat.le_of_ble_eq_true rfl)⟩ ⟨(Nat.le_of_ble_eq_true rfl), (Nat.le_of_ble_eq_true rfl)⟩ ?_
    refine r_if_eq (tgt := 27) dX11_plays_12 (by decide) (fun c_12 => ?_) (fun c_12 => ?_)
    · have c_12 := bI_0 c_12
      (try dsimp only [Gs_M] at c_12)
      refine r_iconst (v := (-1)) dX11_plays_27 (by decide) ?_
      refine r_iret dX11_plays_28 rfl (Nat.le_refl _) ?_
      (try dsimp only [Gs_M])
      refine ⟨_, rfl, ?_, fT.rf⟩
      · rw [playsX, if_neg (fun z => c_12 z.2)]
    · have c_12 := bI_n c_12
      (try dsimp only [Gs_M] at c_12)
      obtain ⟨k, hk, rfl⟩ := rngP (x := x) c_5 h8 hpl
      obtain ⟨j, hj, rfl⟩ := rng (x := p) 7 (by decide) c_12
      refine r_aload_n dX11_plays_15 rfl rfl ?_
      refine r_getR (q := 28) dX11_plays_16 (ci := 11) (kf := 4) rfl (Nat.le_of_ble_eq_true rfl) (by decide) (by decide) rfl fl_X11_27 (Or.inl rfl) rfl ?_
      refine r_iload_n dX11_plays_19 rfl rfl ?_
      refine r_iload_n dX11_plays_20 rfl rfl ?_
      refine r_callV_eI (ci := 10) dX11_plays_21 (s_X10_firstOnBill g hS hI hN (k) (j) hk (by omega)) mf_X10_firstOnBill mi_X10_firstOnBill se_X10_X10_X10_firstOnBill ml_X11_216 rfl rfl (Nat.le_of_ble_eq_true rfl) rfl (by decide) rfl (Nat.le_of_ble_eq_true rfl) ⟨(Nat.le_of_ble_eq_true rfl), (Nat.le_of_ble_eq_true rfl)⟩ ⟨(Nat.le_of_ble_eq_true rfl), (Nat.le_of_ble_eq_true rfl)⟩ (fun r_21 S_21 q_21 z_21 => ?_)
      obtain ⟨x21, f21, ok21⟩ := q_21
      refine r_goto (tgt := 28) dX11_plays_24 (by decide) ?_
      refine r_iret dX11_plays_28 rfl (Nat.le_refl _) ?_
      (try dsimp only [Gs_M])
      exact ⟨_, rfl, by rw [playsX, if_pos (⟨c_5, c_12⟩), cl_nI (by omega), cl_nI (by omega)]; exact x21, f21⟩
set_option maxRecDepth 20000 in
set_option maxHeartbeats 1000000 in
theorem s_X11_house (g : pG) {S : pS} (hS : sOk S) (hI : InvR (vw S 1)) (hN : InvN (vw S 1)) : MS g mX11_house 6 0 0 [.ref 0] (S) (eI (fun rx S1 => rx = houseR (vw (S) 1) ∧ fT LT (S) S1)) := by
  obtain ⟨M0, rfl⟩ := sOk_gs hS
  obtain ⟨h8, hpl⟩ := hI.pl
  refine MS.of pn_X11 (Nat.le_of_ble_eq_true rfl) ?_
  refine r_aload_n dX11_house_0 rfl rfl ?_
  refine r_getR (q := 28) dX11_house_1 (ci := 11) (kf := 4) rfl (Nat.le_of_ble_eq_true rfl) (by decide) (by decide) rfl fl_X11_27 (Or.inl rfl) rfl ?_
  refine r_callV_eI (ci := 10) dX11_house_4 (s_X10_firstFullHouse g hS hI hN) mf_X10_firstFullHouse mi_X10_firstFullHouse se_X10_X10_X10_firstFullHouse ml_X11_219 rfl rfl (Nat.le_of_ble_eq_true rfl) rfl (by decide) rfl (Nat.le_of_ble_eq_true rfl) ⟨(Nat.le_of_ble_eq_true rfl), (Nat.le_of_ble_eq_true rfl)⟩ ⟨(Nat.le_of_ble_eq_true rfl), (Nat.le_of_ble_eq_true rfl)⟩ (fun r_4 S_4 q_4 z_4 => ?_)
  obtain ⟨x4, f4, ok4⟩ := q_4
  refine r_iret dX11_house_7 rfl (Nat.le_refl _) ?_
  (try dsimp only [Gs_M])
  exact ⟨_, rfl, by exact x4, f4⟩
set_option maxRecDepth 20000 in
set_option maxHeartbeats 1000000 in
theorem s_X11_worst (g : pG) {S : pS} (hS : sOk S) (hI : InvR (vw S 1)) (hN : InvN (vw S 1)) : MS g mX11_worst 6 0 0 [.ref 0] (S) (eI (fun rx S1 => rx = id (worstR (vw (S) 1) (plR (vw (S) 1))).1 ∧ fT LT (S) S1)) := by
  obtain ⟨M0, rfl⟩ := sOk_gs hS
  obtain ⟨h8, hpl⟩ := hI.pl
  refine MS.of pn_X11 (Nat.le_of_ble_eq_true rfl) ?_
  refine r_aload_n dX11_worst_0 rfl rfl ?_
  refine r_getR (q := 28) dX11_worst_1 (ci := 11) (kf := 4) rfl (Nat.le_of_ble_eq_true rfl) (by decide) (by decide) rfl fl_X11_27 (Or.inl rfl) rfl ?_
  refine r_callV_eI (ci := 10) dX11_worst_4 (s_X10_worstIllness g hS hI hN) mf_X10_worstIllness mi_X10_worstIllness se_X10_X10_X10_worstIllness ml_X11_222 rfl rfl (Nat.le_of_ble_eq_true rfl) rfl (by decide) rfl (Nat.le_of_ble_eq_true rfl) ⟨(Nat.le_of_ble_eq_true rfl), (Nat.le_of_ble_eq_true rfl)⟩ ⟨(Nat.le_of_ble_eq_true rfl), (Nat.le_of_ble_eq_true rfl)⟩ (fun r_4 S_4 q_4 z_4 => ?_)
  obtain ⟨x4, f4, ok4⟩ := q_4
  refine r_iret dX11_worst_7 rfl (Nat.le_refl _) ?_
  (try dsimp only [Gs_M])
  exact ⟨_, rfl, by exact x4, f4⟩
def kinX (W : Nat → Int32) (x n : Int32) : Int32 := if (0 ≤ x ∧ x ≤ W 6 - 1) ∧ 1 ≤ n ∧ n ≤ 30 then (mxR (fun kd => goR (upd W (16 + 11 * cl x + 0) (nI kd)) (cl n) 7) (-3) (-1) 6).1 else -1
def enoX (W : Nat → Int32) (x p : Int32) : Int32 := if (0 ≤ x ∧ x ≤ W 6 - 1) ∧ 0 ≤ p ∧ p ≤ 7 then fwR (fun v => decide (rol (upd W (16 + 11 * cl x + (3 + cl p)) (nI v)) (cl x) = p)) 100 else -1
set_option maxRecDepth 20000 in
set_option maxHeartbeats 1000000 in
theorem s_X11_kindFor (g : pG) {S : pS} (hS : sOk S) (hI : InvR (vw S 1)) (hN : InvN (vw S 1)) (x : Int32) (n : Int32) : MS g mX11_kindFor 7 0 0 [.ref 0, .int x, .int n] (S) (eI (fun rx S1 => rx = kinX (vw (S) 1) x n ∧ fT LT (S) S1)) := by
  obtain ⟨M0, rfl⟩ := sOk_gs hS
  obtain ⟨h8, hpl⟩ := hI.pl
  refine MS.of pn_X11 (Nat.le_of_ble_eq_true rfl) ?_
  refine r_aload_n dX11_kindFor_0 rfl rfl ?_
  refine r_iload_n dX11_kindFor_1 rfl rfl ?_
  refine r_callV_dI (ci := 11) dX11_kindFor_2 (s_X11_isPlayer g hS hI _) mf_X11_isPlayer mi_X11_isPlayer se_X11_X11_X11_isPlayer ml_X11_150 rfl rfl (Nat.le_of_ble_eq_true rfl) rfl (by decide) rfl (Nat.le_of_ble_eq_true rfl) ⟨(Nat.le_of_ble_eq_true rfl), (Nat.le_of_ble_eq_true rfl)⟩ ⟨(Nat.le_of_ble_eq_true rfl), (Nat.le_of_ble_eq_true rfl)⟩ ?_
  refine r_if_eq (tgt := 31) dX11_kindFor_5 (by decide) (fun c_5 => ?_) (fun c_5 => ?_)
  · have c_5 := bI_0 c_5
    (try dsimp only [Gs_M] at c_5)
    refine r_iconst (v := (-1)) dX11_kindFor_31 (by decide) ?_
    refine r_iret dX11_kindFor_32 rfl (Nat.le_refl _) ?_
    (try dsimp only [Gs_M])
    refine ⟨_, rfl, ?_, fT.rf⟩
    · rw [kinX, if_neg (fun z => c_5 z.1)]
  · have c_5 := bI_n c_5
    (try dsimp only [Gs_M] at c_5)
    refine r_iload_n dX11_kindFor_8 rfl rfl ?_
    refine r_iconst (v := 1) dX11_kindFor_9 (by decide) ?_
    refine r_icmp_lt (tgt := 31) dX11_kindFor_10 (by decide) (fun c_10 => ?_) (fun c_10 => ?_)
    · (try dsimp only [Gs_M] at c_10)
      refine r_iconst (v := (-1)) dX11_kindFor_31 (by decide) ?_
      refine r_iret dX11_kindFor_32 rfl (Nat.le_refl _) ?_
      (try dsimp only [Gs_M])
      refine ⟨_, rfl, ?_, fT.rf⟩
      · rw [kinX, if_neg (fun z => Int32.not_lt.mpr z.2.1 c_10)]
    · (try dsimp only [Gs_M] at c_10)
      refine r_iload_n dX11_kindFor_13 rfl rfl ?_
      refine r_bipush (v := 30) dX11_kindFor_14 (by decide) ?_
      refine r_icmp_gt (tgt := 31) dX11_kindFor_16 (by decide) (fun c_16 => ?_) (fun c_16 => ?_)
      · (try dsimp only [Gs_M] at c_16)
        refine r_iconst (v := (-1)) dX11_kindFor_31 (by decide) ?_
        refine r_iret dX11_kindFor_32 rfl (Nat.le_refl _) ?_
        (try dsimp only [Gs_M])
        refine ⟨_, rfl, ?_, fT.rf⟩
        · rw [kinX, if_neg (fun z => Int32.not_lt.mpr z.2.2 c_16)]
      · (try dsimp only [Gs_M] at c_16)
        obtain ⟨k, hk, rfl⟩ := rngP (x := x) c_5 h8 hpl
        obtain ⟨m, hm1, hm, rfl⟩ := rg1 (x := n) 30 (by decide) c_10 (Int32.not_lt.mp c_16)
        refine r_aload_n dX11_kindFor_19 rfl rfl ?_
        refine r_getR (q := 28) dX11_kindFor_20 (ci := 11) (kf := 4) rfl (Nat.le_of_ble_eq_true rfl) (by decide) (by decide) rfl fl_X11_27 (Or.inl rfl) rfl ?_
        refine r_iload_n dX11_kindFor_23 rfl rfl ?_
        refine r_iload_n dX11_kindFor_24 rfl rfl ?_
        refine r_callV_eI (ci := 10) dX11_kindFor_25 (s_X10_bestKind g hS hI hN (k) (m) hk (by omega)) mf_X10_bestKind mi_X10_bestKind se_X10_X10_X10_bestKind ml_X11_225 rfl rfl (Nat.le_of_ble_eq_true rfl) rfl (by decide) rfl (Nat.le_of_ble_eq_true rfl) ⟨(Nat.le_of_ble_eq_true rfl), (Nat.le_of_ble_eq_true rfl)⟩ ⟨(Nat.le_of_ble_eq_true rfl), (Nat.le_of_ble_eq_true rfl)⟩ (fun r_25 S_25 q_25 z_25 => ?_)
        obtain ⟨x25, f25, ok25⟩ := q_25
        refine r_goto (tgt := 32) dX11_kindFor_28 (by decide) ?_
        refine r_iret dX11_kindFor_32 rfl (Nat.le_refl _) ?_
        (try dsimp only [Gs_M])
        exact ⟨_, rfl, by rw [kinX, if_pos (⟨c_5, ⟨Int32.not_lt.mp c_10, Int32.not_lt.mp c_16⟩⟩), cl_nI (by omega), cl_nI (by omega)]; exact x25, f25⟩
set_option maxRecDepth 20000 in
set_option maxHeartbeats 1000000 in
theorem s_X11_enoughFor (g : pG) {S : pS} (hS : sOk S) (hI : InvR (vw S 1)) (hN : InvN (vw S 1)) (x : Int32) (p : Int32) : MS g mX11_enoughFor 5 0 0 [.ref 0, .int x, .int p] (S) (eI (fun rx S1 => rx = enoX (vw (S) 1) x p ∧ fT LT (S) S1)) := by
  obtain ⟨M0, rfl⟩ := sOk_gs hS
  obtain ⟨h8, hpl⟩ := hI.pl
  refine MS.of pn_X11 (Nat.le_of_ble_eq_true rfl) ?_
  refine r_aload_n dX11_enoughFor_0 rfl rfl ?_
  refine r_iload_n dX11_enoughFor_1 rfl rfl ?_
  refine r_callV_dI (ci := 11) dX11_enoughFor_2 (s_X11_isPlayer g hS hI _) mf_X11_isPlayer mi_X11_isPlayer se_X11_X11_X11_isPlayer ml_X11_150 rfl rfl (Nat.le_of_ble_eq_true rfl) rfl (by decide) rfl (Nat.le_of_ble_eq_true rfl) ⟨(Nat.le_of_ble_eq_true rfl), (Nat.le_of_ble_eq_true rfl)⟩ ⟨(Nat.le_of_ble_eq_true rfl), (Nat.le_of_ble_eq_true rfl)⟩ ?_
  refine r_if_eq (tgt := 27) dX11_enoughFor_5 (by decide) (fun c_5 => ?_) (fun c_5 => ?_)
  · have c_5 := bI_0 c_5
    (try dsimp only [Gs_M] at c_5)
    refine r_iconst (v := (-1)) dX11_enoughFor_27 (by decide) ?_
    refine r_iret dX11_enoughFor_28 rfl (Nat.le_refl _) ?_
    (try dsimp only [Gs_M])
    refine ⟨_, rfl, ?_, fT.rf⟩
    · rw [enoX, if_neg (fun z => c_5 z.1)]
  · have c_5 := bI_n c_5
    (try dsimp only [Gs_M] at c_5)
    refine r_iload_n dX11_enoughFor_8 rfl rfl ?_
    refine r_callS_dI dX11_enoughFor_9 (s_X11_isPart g _ _) mf_X11_isPart mt_X11_isPart ml_X11_127 rfl rfl (Nat.le_of_ble_eq_true rfl) ⟨(Nat.le_of_ble_eq_true rfl), (Nat.le_of_ble_eq_true rfl)⟩ ⟨(Nat.le_of_ble_eq_true rfl), (Nat.le_of_ble_eq_true rfl)⟩ ?_
    refine r_if_eq (tgt := 27) dX11_enoughFor_12 (by decide) (fun c_12 => ?_) (fun c_12 => ?_)
    · have c_12 := bI_0 c_12
      (try dsimp only [Gs_M] at c_12)
      refine r_iconst (v := (-1)) dX11_enoughFor_27 (by decide) ?_
      refine r_iret dX11_enoughFor_28 rfl (Nat.le_refl _) ?_
      (try dsimp only [Gs_M])
      refine ⟨_, rfl, ?_, fT.rf⟩
      · rw [enoX, if_neg (fun z => c_12 z.2)]
    · have c_12 := bI_n c_12
      (try dsimp only [Gs_M] at c_12)
      obtain ⟨k, hk, rfl⟩ := rngP (x := x) c_5 h8 hpl
      obtain ⟨j, hj, rfl⟩ := rng (x := p) 7 (by decide) c_12
      refine r_aload_n dX11_enoughFor_15 rfl rfl ?_
      refine r_getR (q := 28) dX11_enoughFor_16 (ci := 11) (kf := 4) rfl (Nat.le_of_ble_eq_true rfl) (by decide) (by decide) rfl fl_X11_27 (Or.inl rfl) rfl ?_
      refine r_iload_n dX11_enoughFor_19 rfl rfl ?_
      refine r_iload_n dX11_enoughFor_20 rfl rfl ?_
      refine r_callV_eI (ci := 10) dX11_enoughFor_21 (s_X10_leastKnowing g hS hI hN (k) (j) hk (by omega)) mf_X10_leastKnowing mi_X10_leastKnowing se_X10_X10_X10_leastKnowing ml_X11_228 rfl rfl (Nat.le_of_ble_eq_true rfl) rfl (by decide) rfl (Nat.le_of_ble_eq_true rfl) ⟨(Nat.le_of_ble_eq_true rfl), (Nat.le_of_ble_eq_true rfl)⟩ ⟨(Nat.le_of_ble_eq_true rfl), (Nat.le_of_ble_eq_true rfl)⟩ (fun r_21 S_21 q_21 z_21 => ?_)
      obtain ⟨x21, f21, ok21⟩ := q_21
      refine r_goto (tgt := 28) dX11_enoughFor_24 (by decide) ?_
      refine r_iret dX11_enoughFor_28 rfl (Nat.le_refl _) ?_
      (try dsimp only [Gs_M])
      exact ⟨_, rfl, by rw [enoX, if_pos (⟨c_5, c_12⟩), cl_nI (by omega), cl_nI (by omega)]; exact x21, f21⟩
set_option maxRecDepth 20000 in
set_option maxHeartbeats 1000000 in
theorem s_X11_learnerFor (g : pG) {S : pS} (hS : sOk S) (hI : InvR (vw S 1)) (hN : InvN (vw S 1)) (p : Int32) (n : Int32) : MS g mX11_learnerFor 7 0 0 [.ref 0, .int p, .int n] (S) (eI (fun rx S1 => rx = learnerX (vw (S) 1) p n ∧ fT LT (S) S1)) := by
  obtain ⟨M0, rfl⟩ := sOk_gs hS
  obtain ⟨h8, hpl⟩ := hI.pl
  refine MS.of pn_X11 (Nat.le_of_ble_eq_true rfl) ?_
  refine r_iload_n dX11_learnerFor_0 rfl rfl ?_
  refine r_callS_dI dX11_learnerFor_1 (s_X11_isPart g _ _) mf_X11_isPart mt_X11_isPart ml_X11_127 rfl rfl (Nat.le_of_ble_eq_true rfl) ⟨(Nat.le_of_ble_eq_true rfl), (Nat.le_of_ble_eq_true rfl)⟩ ⟨(Nat.le_of_ble_eq_true rfl), (Nat.le_of_ble_eq_true rfl)⟩ ?_
  refine r_if_eq (tgt := 30) dX11_learnerFor_4 (by decide) (fun c_4 => ?_) (fun c_4 => ?_)
  · have c_4 := bI_0 c_4
    (try dsimp only [Gs_M] at c_4)
    refine r_iconst (v := (-1)) dX11_learnerFor_30 (by decide) ?_
    refine r_iret dX11_learnerFor_31 rfl (Nat.le_refl _) ?_
    (try dsimp only [Gs_M])
    refine ⟨_, rfl, ?_, fT.rf⟩
    · rw [learnerX, if_neg (fun z => c_4 z.1)]
  · have c_4 := bI_n c_4
    (try dsimp only [Gs_M] at c_4)
    refine r_iload_n dX11_learnerFor_7 rfl rfl ?_
    refine r_iconst (v := 1) dX11_learnerFor_8 (by decide) ?_
    refine r_icmp_lt (tgt := 30) dX11_learnerFor_9 (by decide) (fun c_9 => ?_) (fun c_9 => ?_)
    · (try dsimp only [Gs_M] at c_9)
      refine r_iconst (v := (-1)) dX11_learnerFor_30 (by decide) ?_
      refine r_iret dX11_learnerFor_31 rfl (Nat.le_refl _) ?_
      (try dsimp only [Gs_M])
      refine ⟨_, rfl, ?_, fT.rf⟩
      · rw [learnerX, if_neg (fun z => Int32.not_lt.mpr z.2.1 c_9)]
    · (try dsimp only [Gs_M] at c_9)
      refine r_iload_n dX11_learnerFor_12 rfl rfl ?_
      refine r_bipush (v := 30) dX11_learnerFor_13 (by decide) ?_
      refine r_icmp_gt (tgt := 30) dX11_learnerFor_15 (by decide) (fun c_15 => ?_) (fun c_15 => ?_)
      · (try dsimp only [Gs_M] at c_15)
        refine r_iconst (v := (-1)) dX11_learnerFor_30 (by decide) ?_
        refine r_iret dX11_learnerFor_31 rfl (Nat.le_refl _) ?_
        (try dsimp only [Gs_M])
        refine ⟨_, rfl, ?_, fT.rf⟩
        · rw [learnerX, if_neg (fun z => Int32.not_lt.mpr z.2.2 c_15)]
      · (try dsimp only [Gs_M] at c_15)
        obtain ⟨j, hj, rfl⟩ := rng (x := p) 7 (by decide) c_4
        obtain ⟨m, hm1, hm, rfl⟩ := rg1 (x := n) 30 (by decide) c_9 (Int32.not_lt.mp c_15)
        refine r_aload_n dX11_learnerFor_18 rfl rfl ?_
        refine r_getR (q := 28) dX11_learnerFor_19 (ci := 11) (kf := 4) rfl (Nat.le_of_ble_eq_true rfl) (by decide) (by decide) rfl fl_X11_27 (Or.inl rfl) rfl ?_
        refine r_iload_n dX11_learnerFor_22 rfl rfl ?_
        refine r_iload_n dX11_learnerFor_23 rfl rfl ?_
        refine r_callV_eI (ci := 10) dX11_learnerFor_24 (s_X10_bestLearner g hS hI hN (j) (m) (by omega) (by omega)) mf_X10_bestLearner mi_X10_bestLearner se_X10_X10_X10_bestLearner ml_X11_231 rfl rfl (Nat.le_of_ble_eq_true rfl) rfl (by decide) rfl (Nat.le_of_ble_eq_true rfl) ⟨(Nat.le_of_ble_eq_true rfl), (Nat.le_of_ble_eq_true rfl)⟩ ⟨(Nat.le_of_ble_eq_true rfl), (Nat.le_of_ble_eq_true rfl)⟩ (fun r_24 S_24 q_24 z_24 => ?_)
        obtain ⟨x24, f24, ok24⟩ := q_24
        refine r_goto (tgt := 31) dX11_learnerFor_27 (by decide) ?_
        refine r_iret dX11_learnerFor_31 rfl (Nat.le_refl _) ?_
        (try dsimp only [Gs_M])
        exact ⟨_, rfl, by rw [learnerX, if_pos (⟨c_4, ⟨Int32.not_lt.mp c_9, Int32.not_lt.mp c_15⟩⟩), cl_nI (by omega), cl_nI (by omega)]; exact x24, f24⟩
set_option maxRecDepth 20000 in
set_option maxHeartbeats 1000000 in
theorem s_X11_fewestFor (g : pG) {S : pS} (hS : sOk S) (hI : InvR (vw S 1)) (hN : InvN (vw S 1)) (v : Int32) : MS g mX11_fewestFor 7 0 0 [.ref 0, .int v] (S) (eI (fun rx S1 => rx = fewestX (vw (S) 1) v ∧ fT LT (S) S1)) := by
  obtain ⟨M0, rfl⟩ := sOk_gs hS
  obtain ⟨h8, hpl⟩ := hI.pl
  refine MS.of pn_X11 (Nat.le_of_ble_eq_true rfl) ?_
  refine r_iload_n dX11_fewestFor_0 rfl rfl ?_
  refine r_if_lt (tgt := 22) dX11_fewestFor_1 (by decide) (fun c_1 => ?_) (fun c_1 => ?_)
  · (try dsimp only [Gs_M] at c_1)
    refine r_iconst (v := (-1)) dX11_fewestFor_22 (by decide) ?_
    refine r_iret dX11_fewestFor_23 rfl (Nat.le_refl _) ?_
    (try dsimp only [Gs_M])
    refine ⟨_, rfl, ?_, fT.rf⟩
    · rw [fewestX, if_neg (fun z => Int32.not_lt.mpr z.1 c_1)]
  · (try dsimp only [Gs_M] at c_1)
    refine r_iload_n dX11_fewestFor_4 rfl rfl ?_
    refine r_sipush (v := 9999) dX11_fewestFor_5 (by decide) ?_
    refine r_icmp_gt (tgt := 22) dX11_fewestFor_8 (by decide) (fun c_8 => ?_) (fun c_8 => ?_)
    · (try dsimp only [Gs_M] at c_8)
      refine r_iconst (v := (-1)) dX11_fewestFor_22 (by decide) ?_
      refine r_iret dX11_fewestFor_23 rfl (Nat.le_refl _) ?_
      (try dsimp only [Gs_M])
      refine ⟨_, rfl, ?_, fT.rf⟩
      · rw [fewestX, if_neg (fun z => Int32.not_lt.mpr z.2 c_8)]
    · (try dsimp only [Gs_M] at c_8)
      refine r_aload_n dX11_fewestFor_11 rfl rfl ?_
      refine r_getR (q := 28) dX11_fewestFor_12 (ci := 11) (kf := 4) rfl (Nat.le_of_ble_eq_true rfl) (by decide) (by decide) rfl fl_X11_27 (Or.inl rfl) rfl ?_
      refine r_iload_n dX11_fewestFor_15 rfl rfl ?_
      refine r_callV_eI (ci := 10) dX11_fewestFor_16 (s_X10_fewestWell g hS hI hN _) mf_X10_fewestWell mi_X10_fewestWell se_X10_X10_X10_fewestWell ml_X11_234 rfl rfl (Nat.le_of_ble_eq_true rfl) rfl (by decide) rfl (Nat.le_of_ble_eq_true rfl) ⟨(Nat.le_of_ble_eq_true rfl), (Nat.le_of_ble_eq_true rfl)⟩ ⟨(Nat.le_of_ble_eq_true rfl), (Nat.le_of_ble_eq_true rfl)⟩ (fun r_16 S_16 q_16 z_16 => ?_)
      obtain ⟨x16, f16, ok16⟩ := q_16
      refine r_goto (tgt := 23) dX11_fewestFor_19 (by decide) ?_
      refine r_iret dX11_fewestFor_23 rfl (Nat.le_refl _) ?_
      (try dsimp only [Gs_M])
      exact ⟨_, rfl, by rw [fewestX, if_pos (⟨Int32.not_lt.mp c_1, Int32.not_lt.mp c_8⟩)]; exact x16, f16⟩
set_option maxRecDepth 20000 in
set_option maxHeartbeats 1000000 in
theorem s_X11_state (g : pG) {S : pS} (hS : sOk S) (hI : InvR (vw S 1)) (hN : InvN (vw S 1)) (w : Int32) : MS g mX11_state 4 0 0 [.ref 0, .int w] (S) (eI (fun rx S1 => rx = stateX (vw (S) 1) w ∧ fr [8, 9] (S) S1)) := by
  obtain ⟨M0, rfl⟩ := sOk_gs hS
  obtain ⟨h8, hpl⟩ := hI.pl
  refine MS.of pn_X11 (Nat.le_of_ble_eq_true rfl) ?_
  refine r_aload_n dX11_state_0 rfl rfl ?_
  refine r_getR (q := 1) dX11_state_1 (ci := 11) (kf := 0) rfl (Nat.le_of_ble_eq_true rfl) (by decide) (by decide) rfl fl_X11_10 (Or.inl rfl) rfl ?_
  refine r_callV_eV (ci := 0) dX11_state_4 (s_X0_makeBill g (CoG (Or.inl rfl)) hI hN) mf_X0_makeBill mi_X0_makeBill se_X0_X0_X0_makeBill ml_X11_133 rfl rfl (Nat.le_of_ble_eq_true rfl) rfl (by decide) rfl (Nat.le_of_ble_eq_true rfl) ⟨(Nat.le_of_ble_eq_true rfl), (Nat.le_of_ble_eq_true rfl)⟩ ⟨(Nat.le_of_ble_eq_true rfl), (Nat.le_of_ble_eq_true rfl)⟩ (fun S_4 q_4 z_4 => ?_)
  obtain ⟨f4, bc4, br4⟩ := q_4
  obtain ⟨Ma, rfl⟩ := sOk_gs (f4.ok hS)
  have v4 : vw (Gs Ma) 1 = vw (Gs M0) 1 := f4.vw (fun c hc => by simp [frl]; omega)
  have hcc : cOk ((Gs Ma).2.2.2 (1 + 7)) := fun x hx => by rw [bc4 x hx]; exact cst_ok hI x hx
  refine r_iload_n dX11_state_7 rfl rfl ?_
  by_cases e_8_0 : w = 0
  · refine r_tableAt (tgt := 48) 0 dX11_state_8 e_8_0 (by decide) (by decide) rfl (by decide) ?_
    refine r_aload_n dX11_state_48 rfl rfl ?_
    refine r_getR (q := 1) dX11_state_49 (ci := 11) (kf := 0) rfl (Nat.le_of_ble_eq_true rfl) (by decide) (by decide) rfl fl_X11_10 (Or.inl rfl) rfl ?_
    refine r_getI dX11_state_52 (ci := 0) (kf := 7) rfl (Nat.le_of_ble_eq_true rfl) (by decide) (by decide) rfl fl_X11_194 (Or.inl rfl) ?_
    refine r_iret dX11_state_55 rfl (Nat.le_refl _) ?_
    (try dsimp only [Gs_M])
    refine ⟨_, rfl, ?_, f4⟩
    rw [stateX, if_pos e_8_0]
    rw [← v4]
    rfl
  by_cases e_8_1 : w = 1
  · refine r_tableAt (tgt := 56) 1 dX11_state_8 e_8_1 (by decide) (by decide) rfl (by decide) ?_
    refine r_aload_n dX11_state_56 rfl rfl ?_
    refine r_getR (q := 1) dX11_state_57 (ci := 11) (kf := 0) rfl (Nat.le_of_ble_eq_true rfl) (by decide) (by decide) rfl fl_X11_10 (Or.inl rfl) rfl ?_
    refine r_getI dX11_state_60 (ci := 0) (kf := 8) rfl (Nat.le_of_ble_eq_true rfl) (by decide) (by decide) rfl fl_X11_185 (Or.inl rfl) ?_
    refine r_iret dX11_state_63 rfl (Nat.le_refl _) ?_
    (try dsimp only [Gs_M])
    refine ⟨_, rfl, ?_, f4⟩
    rw [stateX, if_neg e_8_0, if_pos e_8_1]
    rw [← v4]
    rfl
  by_cases e_8_2 : w = 2
  · refine r_tableAt (tgt := 64) 2 dX11_state_8 e_8_2 (by decide) (by decide) rfl (by decide) ?_
    refine r_aload_n dX11_state_64 rfl rfl ?_
    refine r_getR (q := 1) dX11_state_65 (ci := 11) (kf := 0) rfl (Nat.le_of_ble_eq_true rfl) (by decide) (by decide) rfl fl_X11_10 (Or.inl rfl) rfl ?_
    refine r_callV_dI (ci := 0) dX11_state_68 (s_X0_show g (CoG (Or.inl rfl)) hcc) mf_X0_show mi_X0_show se_X0_X0_X0_show ml_X11_197 rfl rfl (Nat.le_of_ble_eq_true rfl) rfl (by decide) rfl (Nat.le_of_ble_eq_true rfl) ⟨(Nat.le_of_ble_eq_true rfl), (Nat.le_of_ble_eq_true rfl)⟩ ⟨(Nat.le_of_ble_eq_true rfl), (Nat.le_of_ble_eq_true rfl)⟩ ?_
    refine r_iret dX11_state_71 rfl (Nat.le_refl _) ?_
    (try dsimp only [Gs_M])
    refine ⟨_, rfl, ?_, f4⟩
    rw [stateX, if_neg e_8_0, if_neg e_8_1, if_pos e_8_2]
    rw [v4]
    exact showR_cong bc4 8 (Nat.le_refl _)
  by_cases e_8_3 : w = 3
  · refine r_tableAt (tgt := 72) 3 dX11_state_8 e_8_3 (by decide) (by decide) rfl (by decide) ?_
    refine r_aload_n dX11_state_72 rfl rfl ?_
    refine r_getR (q := 1) dX11_state_73 (ci := 11) (kf := 0) rfl (Nat.le_of_ble_eq_true rfl) (by decide) (by decide) rfl fl_X11_10 (Or.inl rfl) rfl ?_
    refine r_callV_dI (ci := 0) dX11_state_76 (s_X0_cutParts g (CoG (Or.inl rfl)) hcc) mf_X0_cutParts mi_X0_cutParts se_X0_X0_X0_cutParts ml_X11_200 rfl rfl (Nat.le_of_ble_eq_true rfl) rfl (by decide) rfl (Nat.le_of_ble_eq_true rfl) ⟨(Nat.le_of_ble_eq_true rfl), (Nat.le_of_ble_eq_true rfl)⟩ ⟨(Nat.le_of_ble_eq_true rfl), (Nat.le_of_ble_eq_true rfl)⟩ ?_
    refine r_iret dX11_state_79 rfl (Nat.le_refl _) ?_
    (try dsimp only [Gs_M])
    refine ⟨_, rfl, ?_, f4⟩
    rw [stateX, if_neg e_8_0, if_neg e_8_1, if_neg e_8_2, if_pos e_8_3]
    exact cutR_cong bc4 8 (Nat.le_refl _)
  by_cases e_8_4 : w = 4
  · refine r_tableAt (tgt := 80) 4 dX11_state_8 e_8_4 (by decide) (by decide) rfl (by decide) ?_
    refine r_aload_n dX11_state_80 rfl rfl ?_
    refine r_getR (q := 1) dX11_state_81 (ci := 11) (kf := 0) rfl (Nat.le_of_ble_eq_true rfl) (by decide) (by decide) rfl fl_X11_10 (Or.inl rfl) rfl ?_
    refine r_callV_dI (ci := 0) dX11_state_84 (s_X0_illPlayers g (CoG (Or.inl rfl)) (v4 ▸ hI)) mf_X0_illPlayers mi_X0_illPlayers se_X0_X0_X0_illPlayers ml_X11_203 rfl rfl (Nat.le_of_ble_eq_true rfl) rfl (by decide) rfl (Nat.le_of_ble_eq_true rfl) ⟨(Nat.le_of_ble_eq_true rfl), (Nat.le_of_ble_eq_true rfl)⟩ ⟨(Nat.le_of_ble_eq_true rfl), (Nat.le_of_ble_eq_true rfl)⟩ ?_
    refine r_iret dX11_state_87 rfl (Nat.le_refl _) ?_
    (try dsimp only [Gs_M])
    refine ⟨_, rfl, ?_, f4⟩
    rw [stateX, if_neg e_8_0, if_neg e_8_1, if_neg e_8_2, if_neg e_8_3, if_pos e_8_4]
    rw [v4]
  by_cases e_8_5 : w = 5
  · refine r_tableAt (tgt := 88) 5 dX11_state_8 e_8_5 (by decide) (by decide) rfl (by decide) ?_
    refine r_aload_n dX11_state_88 rfl rfl ?_
    refine r_getR (q := 1) dX11_state_89 (ci := 11) (kf := 0) rfl (Nat.le_of_ble_eq_true rfl) (by decide) (by decide) rfl fl_X11_10 (Or.inl rfl) rfl ?_
    refine r_callV_dI (ci := 0) dX11_state_92 (s_X0_moved g (CoG (Or.inl rfl)) (v4 ▸ hI)) mf_X0_moved mi_X0_moved se_X0_X0_X0_moved ml_X11_206 rfl rfl (Nat.le_of_ble_eq_true rfl) rfl (by decide) rfl (Nat.le_of_ble_eq_true rfl) ⟨(Nat.le_of_ble_eq_true rfl), (Nat.le_of_ble_eq_true rfl)⟩ ⟨(Nat.le_of_ble_eq_true rfl), (Nat.le_of_ble_eq_true rfl)⟩ ?_
    refine r_iret dX11_state_95 rfl (Nat.le_refl _) ?_
    (try dsimp only [Gs_M])
    refine ⟨_, rfl, ?_, f4⟩
    rw [stateX, if_neg e_8_0, if_neg e_8_1, if_neg e_8_2, if_neg e_8_3, if_neg e_8_4, if_pos e_8_5]
    rw [v4]
    exact movR_cong2 br4 _ (Nat.le_refl _)
  refine r_tableOut (tgt := 96) dX11_state_8 (out_of2 (lo := 0) (n := 5) (by decide) (fun j hl hj => ?_)) (by decide) ?_
  · rcases (by omega : j = 0 ∨ j = 1 ∨ j = 2 ∨ j = 3 ∨ j = 4 ∨ j = 5) with rfl | rfl | rfl | rfl | rfl | rfl
    · exact e_8_0
    · exact e_8_1
    · exact e_8_2
    · exact e_8_3
    · exact e_8_4
    · exact e_8_5
  refine r_iconst (v := (-1)) dX11_state_96 (by decide) ?_
  refine r_iret dX11_state_97 rfl (Nat.le_refl _) ?_
  (try dsimp only [Gs_M])
  refine ⟨_, rfl, ?_, f4⟩
  rw [stateX, if_neg e_8_0, if_neg e_8_1, if_neg e_8_2, if_neg e_8_3, if_neg e_8_4, if_neg e_8_5]
  
