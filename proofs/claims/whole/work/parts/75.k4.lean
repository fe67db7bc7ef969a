theorem nL_sub {a b : Nat} (h : b ≤ a) (ha : a < 2 ^ 63) : nL a - nL b = nL (a - b) := by
  refine nL_of (by omega) ?_
  rw [Int64.toInt_sub, nL_toInt ha, nL_toInt (by omega)]
  have : ((a : Int) - (b : Int)) = ((a - b : Nat) : Int) := by omega
  rw [this]
  exact Int.bmod_eq_of_le (by omega) (by omega)
theorem topR_a {n k c : Nat} : ∀ i, i ≤ k → topR n k c i = binR n k * c ^ i
  | 0, _ => by rw [topR, Nat.pow_zero, Nat.mul_one]
  | i + 1, h => by rw [topR, topR_a i (by omega), if_pos (by omega), Nat.pow_succ, Nat.mul_assoc]
theorem topR_b {n k c : Nat} : ∀ m, topR n k c (k + m) = binR n k * c ^ k * (100 - c) ^ m
  | 0 => by rw [Nat.add_zero, topR_a k (Nat.le_refl _), Nat.pow_zero, Nat.mul_one]
  | m + 1 => by rw [← Nat.add_assoc, topR, topR_b m, if_neg (by omega), Nat.pow_succ, Nat.mul_assoc]
set_option maxRecDepth 20000 in
set_option maxHeartbeats 1000000 in
theorem s_X11_hope (g : pG) {S : pS} (hS : sOk S) (hI : InvR (vw S 1)) (hN : InvN (vw S 1)) (n w : Int32) : MS g mX11_hope 2 0 0 [.ref 0, .int n, .int w] (S) (dL (hopeX (vw S 1) n w) S) := by
  obtain ⟨M0, rfl⟩ := sOk_gs hS
  obtain ⟨h8, hpl⟩ := hI.pl
  obtain ⟨c, hc, ec⟩ := hN.1.2.2.2
  refine MS.of pn_X11 (Nat.le_of_ble_eq_true rfl) ?_
  refine r_iload_n dX11_hope_0 rfl rfl ?_
  refine r_if_lt (tgt := 19) dX11_hope_1 (by decide) (fun c_1 => ?_) (fun c_1 => ?_)
  · (try dsimp only [Gs_M] at c_1)
    refine r_ldc2 dX11_hope_19 kl_X11_250 ?_
    refine r_lret dX11_hope_22 rfl (Nat.le_refl _) ?_
    (try dsimp only [Gs_M])
    refine ⟨congrArg (fun y => some (Value.long y)) (Eq.symm ?_), rfl⟩
    rw [hopeX, if_neg (fun z => Int32.not_lt.mpr z.1.1 c_1)]
  · (try dsimp only [Gs_M] at c_1)
    refine r_iload_n dX11_hope_4 rfl rfl ?_
    refine r_bipush (v := 99) dX11_hope_5 (by decide) ?_
    refine r_icmp_gt (tgt := 19) dX11_hope_7 (by decide) (fun c_7 => ?_) (fun c_7 => ?_)
    · (try dsimp only [Gs_M] at c_7)
      refine r_ldc2 dX11_hope_19 kl_X11_250 ?_
      refine r_lret dX11_hope_22 rfl (Nat.le_refl _) ?_
      (try dsimp only [Gs_M])
      refine ⟨congrArg (fun y => some (Value.long y)) (Eq.symm ?_), rfl⟩
      rw [hopeX, if_neg (fun z => Int32.not_lt.mpr z.1.2 c_7)]
    · (try dsimp only [Gs_M] at c_7)
      refine r_iload_n dX11_hope_10 rfl rfl ?_
      refine r_if_lt (tgt := 19) dX11_hope_11 (by decide) (fun c_11 => ?_) (fun c_11 => ?_)
      · (try dsimp only [Gs_M] at c_11)
        refine r_ldc2 dX11_hope_19 kl_X11_250 ?_
        refine r_lret dX11_hope_22 rfl (Nat.le_refl _) ?_
        (try dsimp only [Gs_M])
        refine ⟨congrArg (fun y => some (Value.long y)) (Eq.symm ?_), rfl⟩
        rw [hopeX, if_neg (fun z => Int32.not_lt.mpr z.2.1 c_11)]
      · (try dsimp only [Gs_M] at c_11)
        refine r_iload_n dX11_hope_14 rfl rfl ?_
        refine r_iconst (v := 1) dX11_hope_15 (by decide) ?_
        refine r_icmp_le (tgt := 23) dX11_hope_16 (by decide) (fun c_16 => ?_) (fun c_16 => ?_)
        · (try dsimp only [Gs_M] at c_16)
          obtain ⟨jn, hjn, rfl⟩ := rng (x := n) 99 (by decide) ⟨Int32.not_lt.mp c_1, Int32.not_lt.mp c_7⟩
          have hm : jn * c ≤ 99 * 99 := Nat.mul_le_mul hjn hc
          have hm2 : jn * c * 100 < 2 ^ 120 := Nat.lt_of_lt_of_le (show jn * c * 100 < 2 ^ 30 by omega) (by decide)
          refine r_iload_n dX11_hope_23 rfl rfl ?_
          refine r_i2l dX11_hope_24 rfl ?_
          rw [nL_i2l (by omega)]
          refine r_aload_n dX11_hope_25 rfl rfl ?_
          refine r_getR (q := 1) dX11_hope_26 (ci := 11) (kf := 0) rfl (Nat.le_of_ble_eq_true rfl) (by decide) (by decide) rfl fl_X11_10 (Or.inl rfl) rfl ?_
          refine r_getR (q := (1 + 1)) dX11_hope_29 (ci := 0) (kf := 0) rfl (Nat.le_of_ble_eq_true rfl) (by decide) (by decide) rfl fl_X11_124 (Or.inl rfl) (CoG (Or.inl rfl)).2.2.2.1 ?_
          refine r_iconst (v := 3) dX11_hope_32 (by decide) ?_
          refine r_iald (j := 3) dX11_hope_33 (CoG (Or.inl rfl)).2.2.1.1 (Co_la1 (CoG (Or.inl rfl))) rfl (by decide) (by decide) ?_
          rw [show (Gs M0).2.2.2 2 3 = nI c from ec]
          refine r_i2l dX11_hope_34 rfl ?_
          rw [nL_i2l (by omega)]
          refine r_lmul dX11_hope_35 ?_
          rw [nL_mul]
          refine r_ldc2 dX11_hope_36 kl_X11_260 ?_
          refine r_iload_n dX11_hope_39 rfl rfl ?_
          refine r_callS_dL dX11_hope_40 (s_X11_partOfFraction g (jn * c) 100 (by omega) (by decide) (by decide) hm2 w _) mf_X11_partOfFraction mt_X11_partOfFraction ml_X11_262 rfl rfl (Nat.le_of_ble_eq_true rfl) ⟨(Nat.le_of_ble_eq_true rfl), (Nat.le_of_ble_eq_true rfl)⟩ ⟨(Nat.le_of_ble_eq_true rfl), (Nat.le_of_ble_eq_true rfl)⟩ ?_
          refine r_lret dX11_hope_43 rfl (Nat.le_refl _) ?_
          (try dsimp only [Gs_M])
          refine ⟨congrArg (fun y => some (Value.long y)) (Eq.symm ?_), rfl⟩
          rw [hopeX, if_pos ⟨⟨Int32.not_lt.mp c_1, Int32.not_lt.mp c_7⟩, Int32.not_lt.mp c_11, c_16⟩, cl_nI (by omega), ec, cl_nI (by omega)]
        · (try dsimp only [Gs_M] at c_16)
          refine r_ldc2 dX11_hope_19 kl_X11_250 ?_
          refine r_lret dX11_hope_22 rfl (Nat.le_refl _) ?_
          (try dsimp only [Gs_M])
          refine ⟨congrArg (fun y => some (Value.long y)) (Eq.symm ?_), rfl⟩
          rw [hopeX, if_neg (fun z => c_16 z.2.2)]
set_option maxRecDepth 20000 in
set_option maxHeartbeats 1000000 in
theorem s_X11_odds (g : pG) {S : pS} (hS : sOk S) (hI : InvR (vw S 1)) (hN : InvN (vw S 1)) (n k w : Int32) : MS g mX11_odds 2 0 0 [.ref 0, .int n, .int k, .int w] (S) (dL (oddsX (vw S 1) n k w) S) := by
  obtain ⟨M0, rfl⟩ := sOk_gs hS
  obtain ⟨h8, hpl⟩ := hI.pl
  obtain ⟨c, hc, ec⟩ := hN.1.2.2.2
  refine MS.of pn_X11 (Nat.le_of_ble_eq_true rfl) ?_
  refine r_iload_n dX11_odds_0 rfl rfl ?_
  refine r_if_lt (tgt := 28) dX11_odds_1 (by decide) (fun c_1 => ?_) (fun c_1 => ?_)
  · (try dsimp only [Gs_M] at c_1)
    refine r_ldc2 dX11_odds_28 kl_X11_250 ?_
    refine r_lret dX11_odds_31 rfl (Nat.le_refl _) ?_
    (try dsimp only [Gs_M])
    refine ⟨congrArg (fun y => some (Value.long y)) (Eq.symm ?_), rfl⟩
    rw [oddsX, if_neg (fun z => Int32.not_lt.mpr z.1.1 c_1)]
  · (try dsimp only [Gs_M] at c_1)
    refine r_iload_n dX11_odds_4 rfl rfl ?_
    refine r_bipush (v := 8) dX11_odds_5 (by decide) ?_
    refine r_icmp_gt (tgt := 28) dX11_odds_7 (by decide) (fun c_7 => ?_) (fun c_7 => ?_)
    · (try dsimp only [Gs_M] at c_7)
      refine r_ldc2 dX11_odds_28 kl_X11_250 ?_
      refine r_lret dX11_odds_31 rfl (Nat.le_refl _) ?_
      (try dsimp only [Gs_M])
      refine ⟨congrArg (fun y => some (Value.long y)) (Eq.symm ?_), rfl⟩
      rw [oddsX, if_neg (fun z => Int32.not_lt.mpr z.1.2 c_7)]
    · (try dsimp only [Gs_M] at c_7)
      refine r_iload_n dX11_odds_10 rfl rfl ?_
      refine r_if_lt (tgt := 28) dX11_odds_11 (by decide) (fun c_11 => ?_) (fun c_11 => ?_)
      · (try dsimp only [Gs_M] at c_11)
        refine r_ldc2 dX11_odds_28 kl_X11_250 ?_
        refine r_lret dX11_odds_31 rfl (Nat.le_refl _) ?_
        (try dsimp only [Gs_M])
        refine ⟨congrArg (fun y => some (Value.long y)) (Eq.symm ?_), rfl⟩
        rw [oddsX, if_neg (fun z => Int32.not_lt.mpr z.2.1.1 c_11)]
      · (try dsimp only [Gs_M] at c_11)
        refine r_iload_n dX11_odds_14 rfl rfl ?_
        refine r_iload_n dX11_odds_15 rfl rfl ?_
        refine r_icmp_gt (tgt := 28) dX11_odds_16 (by decide) (fun c_16 => ?_) (fun c_16 => ?_)
        · (try dsimp only [Gs_M] at c_16)
          refine r_ldc2 dX11_odds_28 kl_X11_250 ?_
          refine r_lret dX11_odds_31 rfl (Nat.le_refl _) ?_
          (try dsimp only [Gs_M])
          refine ⟨congrArg (fun y => some (Value.long y)) (Eq.symm ?_), rfl⟩
          rw [oddsX, if_neg (fun z => Int32.not_lt.mpr z.2.1.2 c_16)]
        · (try dsimp only [Gs_M] at c_16)
          refine r_iload_n dX11_odds_19 rfl rfl ?_
          refine r_if_lt (tgt := 28) dX11_odds_20 (by decide) (fun c_20 => ?_) (fun c_20 => ?_)
          · (try dsimp only [Gs_M] at c_20)
            refine r_ldc2 dX11_odds_28 kl_X11_250 ?_
            refine r_lret dX11_odds_31 rfl (Nat.le_refl _) ?_
            (try dsimp only [Gs_M])
            refine ⟨congrArg (fun y => some (Value.long y)) (Eq.symm ?_), rfl⟩
            rw [oddsX, if_neg (fun z => Int32.not_lt.mpr z.2.2.1 c_20)]
          · (try dsimp only [Gs_M] at c_20)
            refine r_iload_n dX11_odds_23 rfl rfl ?_
            refine r_iconst (v := 1) dX11_odds_24 (by decide) ?_
            refine r_icmp_le (tgt := 32) dX11_odds_25 (by decide) (fun c_25 => ?_) (fun c_25 => ?_)
            · (try dsimp only [Gs_M] at c_25)
              obtain ⟨jn, hjn, rfl⟩ := rng (x := n) 8 (by decide) ⟨Int32.not_lt.mp c_1, Int32.not_lt.mp c_7⟩
              obtain ⟨jk, hjk, rfl⟩ := rng (x := k) jn (nI_toInt (by omega)) ⟨Int32.not_lt.mp c_11, Int32.not_lt.mp c_16⟩
              have ht := topR_le (n := jn) (k := jk) (c := c) hjn hjk hc jn
              have hp := pow100 (i := jn) hjn
              have etop : binR jn jk * c ^ jk * (100 - c) ^ (jn - jk) = topR jn jk c jn := by
                have h := topR_b (n := jn) (k := jk) (c := c) (jn - jk)
                rw [show jk + (jn - jk) = jn by omega] at h
                exact h.symm
              have hbig : topR jn jk c jn * 100 ^ jn < 2 ^ 120 := Nat.lt_of_le_of_lt (Nat.mul_le_mul (Nat.le_trans ht (Nat.mul_le_mul_left 70 hp)) hp) (by decide)
              refine r_aload_n dX11_odds_32 rfl rfl ?_
              refine r_getR (q := 1) dX11_odds_33 (ci := 11) (kf := 0) rfl (Nat.le_of_ble_eq_true rfl) (by decide) (by decide) rfl fl_X11_10 (Or.inl rfl) rfl ?_
              refine r_getR (q := (1 + 1)) dX11_odds_36 (ci := 0) (kf := 0) rfl (Nat.le_of_ble_eq_true rfl) (by decide) (by decide) rfl fl_X11_124 (Or.inl rfl) (CoG (Or.inl rfl)).2.2.2.1 ?_
              refine r_iconst (v := 3) dX11_odds_39 (by decide) ?_
              refine r_iald (j := 3) dX11_odds_40 (CoG (Or.inl rfl)).2.2.1.1 (Co_la1 (CoG (Or.inl rfl))) rfl (by decide) (by decide) ?_
              rw [show (Gs M0).2.2.2 2 3 = nI c from ec]
              refine r_i2l dX11_odds_41 rfl ?_
              rw [nL_i2l (by omega)]
              refine r_lstore dX11_odds_42 (by decide) ?_
              refine r_iload_n dX11_odds_44 rfl rfl ?_
              refine r_iload_n dX11_odds_45 rfl rfl ?_
              refine r_callS_dL dX11_odds_46 (s_X11_waysToChoose g (jn) (jk) (by omega) (by omega) _) mf_X11_waysToChoose mt_X11_waysToChoose ml_X11_252 rfl rfl (Nat.le_of_ble_eq_true rfl) ⟨(Nat.le_of_ble_eq_true rfl), (Nat.le_of_ble_eq_true rfl)⟩ ⟨(Nat.le_of_ble_eq_true rfl), (Nat.le_of_ble_eq_true rfl)⟩ ?_
              refine r_lload dX11_odds_49 rfl ?_
              refine r_iload_n dX11_odds_51 rfl rfl ?_
              refine r_callS_dL dX11_odds_52 (s_X11_power g c (jk) (by omega) _) mf_X11_power mt_X11_power ml_X11_256 rfl rfl (Nat.le_of_ble_eq_true rfl) ⟨(Nat.le_of_ble_eq_true rfl), (Nat.le_of_ble_eq_true rfl)⟩ ⟨(Nat.le_of_ble_eq_true rfl), (Nat.le_of_ble_eq_true rfl)⟩ ?_
              refine r_lmul dX11_odds_55 ?_
              rw [nL_mul]
              refine r_ldc2 dX11_odds_56 kl_X11_260 ?_
              refine r_lload dX11_odds_59 rfl ?_
              refine r_lsub dX11_odds_61 ?_
              rw [show (100 : Int64) = nL 100 from rfl, nL_sub (by omega) (by omega)]
              refine r_iload_n dX11_odds_62 rfl rfl ?_
              refine r_iload_n dX11_odds_63 rfl rfl ?_
              refine r_isubN (jn) (jk) dX11_odds_64 (by omega) ?_
              refine r_callS_dL dX11_odds_65 (s_X11_power g (100 - c) ((jn - jk)) (by omega) _) mf_X11_power mt_X11_power ml_X11_256 rfl rfl (Nat.le_of_ble_eq_true rfl) ⟨(Nat.le_of_ble_eq_true rfl), (Nat.le_of_ble_eq_true rfl)⟩ ⟨(Nat.le_of_ble_eq_true rfl), (Nat.le_of_ble_eq_true rfl)⟩ ?_
              refine r_lmul dX11_odds_68 ?_
              rw [nL_mul, etop]
              refine r_lstore dX11_odds_69 (by decide) ?_
              refine r_lload dX11_odds_71 rfl ?_
              refine r_ldc2 dX11_odds_73 kl_X11_260 ?_
              refine r_iload_n dX11_odds_76 rfl rfl ?_
              refine r_callS_dL dX11_odds_77 (s_X11_power g 100 (jn) (by omega) _) mf_X11_power mt_X11_power ml_X11_256 rfl rfl (Nat.le_of_ble_eq_true rfl) ⟨(Nat.le_of_ble_eq_true rfl), (Nat.le_of_ble_eq_true rfl)⟩ ⟨(Nat.le_of_ble_eq_true rfl), (Nat.le_of_ble_eq_true rfl)⟩ ?_
              refine r_iload_n dX11_odds_80 rfl rfl ?_
              refine r_callS_dL dX11_odds_81 (s_X11_partOfFraction g (topR jn jk c jn) (100 ^ jn) (by omega) (by omega) (Nat.pow_pos (by decide)) hbig w _) mf_X11_partOfFraction mt_X11_partOfFraction ml_X11_262 rfl rfl (Nat.le_of_ble_eq_true rfl) ⟨(Nat.le_of_ble_eq_true rfl), (Nat.le_of_ble_eq_true rfl)⟩ ⟨(Nat.le_of_ble_eq_true rfl), (Nat.le_of_ble_eq_true rfl)⟩ ?_
              refine r_lret dX11_odds_84 rfl (Nat.le_refl _) ?_
              (try dsimp only [Gs_M])
              refine ⟨congrArg (fun y => some (Value.long y)) (Eq.symm ?_), rfl⟩
              rw [oddsX, if_pos ⟨⟨Int32.not_lt.mp c_1, Int32.not_lt.mp c_7⟩, ⟨Int32.not_lt.mp c_11, Int32.not_lt.mp c_16⟩, Int32.not_lt.mp c_20, c_25⟩, cl_nI (by omega), cl_nI (by omega), ec, cl_nI (by omega)]
            · (try dsimp only [Gs_M] at c_25)
              refine r_ldc2 dX11_odds_28 kl_X11_250 ?_
              refine r_lret dX11_odds_31 rfl (Nat.le_refl _) ?_
              (try dsimp only [Gs_M])
              refine ⟨congrArg (fun y => some (Value.long y)) (Eq.symm ?_), rfl⟩
              rw [oddsX, if_neg (fun z => c_25 z.2.2.2)]
set_option maxRecDepth 20000 in
set_option maxHeartbeats 1000000 in
theorem s_X11_isRowCell (g : pG) {S : pS} (hS : sOk S) (hR : ∃ r, r ≤ 10 ∧ S.2.2.2 0 8 = nI r) (i w : Int32) : MS g mX11_isRowCell 1 0 0 [.ref 0, .int i, .int w] (S) (dI (bI ((0 ≤ i ∧ i ≤ S.2.2.2 0 8 - 1) ∧ 0 ≤ w ∧ w ≤ 2)) S) := by
  obtain ⟨M0, rfl⟩ := sOk_gs hS
  obtain ⟨r, hr, er⟩ := hR
  have er : (Gs M0).2.2.2 0 8 = nI r := er
  refine MS.of pn_X11 (Nat.le_of_ble_eq_true rfl) ?_
  refine r_iload_n dX11_isRowCell_0 rfl rfl ?_
  refine r_if_lt (tgt := 25) dX11_isRowCell_1 (by decide) (fun c_1 => ?_) (fun c_1 => ?_)
  · (try dsimp only [Gs_M] at c_1)
    refine r_iconst (v := 0) dX11_isRowCell_25 (by decide) ?_
    refine r_zret dX11_isRowCell_26 rfl rfl (Nat.le_refl _) ?_
    (try dsimp only [Gs_M])
    exact dI_f (fun z => Int32.not_lt.mpr z.1.1 c_1)
  · (try dsimp only [Gs_M] at c_1)
    refine r_iload_n dX11_isRowCell_4 rfl rfl ?_
    refine r_aload_n dX11_isRowCell_5 rfl rfl ?_
    refine r_getI dX11_isRowCell_6 (ci := 11) (kf := 8) rfl (Nat.le_of_ble_eq_true rfl) (by decide) (by decide) rfl fl_X11_111 (Or.inl rfl) ?_
    refine r_icmp_ge (tgt := 25) dX11_isRowCell_9 (by decide) (fun c_9 => ?_) (fun c_9 => ?_)
    · (try dsimp only [Gs_M] at c_9)
      refine r_iconst (v := 0) dX11_isRowCell_25 (by decide) ?_
      refine r_zret dX11_isRowCell_26 rfl rfl (Nat.le_refl _) ?_
      (try dsimp only [Gs_M])
      exact dI_f (fun z => (pl_iff (n := r) (by omega) er).mpr z.1.2 c_9)
    · (try dsimp only [Gs_M] at c_9)
      refine r_iload_n dX11_isRowCell_12 rfl rfl ?_
      refine r_if_lt (tgt := 25) dX11_isRowCell_13 (by decide) (fun c_13 => ?_) (fun c_13 => ?_)
      · (try dsimp only [Gs_M] at c_13)
        refine r_iconst (v := 0) dX11_isRowCell_25 (by decide) ?_
        refine r_zret dX11_isRowCell_26 rfl rfl (Nat.le_refl _) ?_
        (try dsimp only [Gs_M])
        exact dI_f (fun z => Int32.not_lt.mpr z.2.1 c_13)
      · (try dsimp only [Gs_M] at c_13)
        refine r_iload_n dX11_isRowCell_16 rfl rfl ?_
        refine r_iconst (v := 3) dX11_isRowCell_17 (by decide) ?_
        refine r_icmp_ge (tgt := 25) dX11_isRowCell_18 (by decide) (fun c_18 => ?_) (fun c_18 => ?_)
        · (try dsimp only [Gs_M] at c_18)
          refine r_iconst (v := 0) dX11_isRowCell_25 (by decide) ?_
          refine r_zret dX11_isRowCell_26 rfl rfl (Nat.le_refl _) ?_
          (try dsimp only [Gs_M])
          exact dI_f (fun z => i_no 2 (by omega) c_18 z.2.2)
        · (try dsimp only [Gs_M] at c_18)
          refine r_iconst (v := 1) dX11_isRowCell_21 (by decide) ?_
          refine r_goto (tgt := 26) dX11_isRowCell_22 (by decide) ?_
          refine r_zret dX11_isRowCell_26 rfl rfl (Nat.le_refl _) ?_
          (try dsimp only [Gs_M])
          exact dI_t ⟨⟨Int32.not_lt.mp c_1, (pl_iff (n := r) (by omega) er).mp c_9⟩, Int32.not_lt.mp c_13, i_pred 2 (by omega) c_18⟩
theorem rngR {x w : Int32} {n : Nat} (h : 0 ≤ x ∧ x ≤ w - 1) (hp : n ≤ 10) (hw : w = nI n) : ∃ j, j < n ∧ x = nI j := by
  obtain ⟨j, hj, e⟩ := nI_of (Int32.not_lt.mpr h.1)
  refine ⟨j, ?_, e⟩
  have h2 := h.2
  have e1 : w - 1 = nI n - nI 1 := by rw [hw]; rfl
  rw [e, e1, Int32.le_iff_toInt_le, nI_toInt hj, pk_sub_toInt (by omega) (by omega)] at h2
  omega
set_option maxRecDepth 20000 in
set_option maxHeartbeats 1000000 in
theorem s_X11_row (g : pG) {S : pS} (hS : sOk S) (hR : ∃ r, r ≤ 10 ∧ S.2.2.2 0 8 = nI r) (i w : Int32) : MS g mX11_row 2 0 0 [.ref 0, .int i, .int w] (S) (eI (fun rx S1 => rx = rowX ((S).2.2.2 31) ((S).2.2.2 0 8) i w ∧ fr [] (S) S1)) := by
  obtain ⟨M0, rfl⟩ := sOk_gs hS
  have hR0 := hR
  obtain ⟨r, hr, er⟩ := hR
  have er : (Gs M0).2.2.2 0 8 = nI r := er
  refine MS.of pn_X11 (Nat.le_of_ble_eq_true rfl) ?_
  refine r_aload_n dX11_row_0 rfl rfl ?_
  refine r_iload_n dX11_row_1 rfl rfl ?_
  refine r_iload_n dX11_row_2 rfl rfl ?_
  refine r_callV_dI (ci := 11) dX11_row_3 (s_X11_isRowCell g hS hR0 _ _) mf_X11_isRowCell mi_X11_isRowCell se_X11_X11_X11_isRowCell ml_X11_270 rfl rfl (Nat.le_of_ble_eq_true rfl) rfl (by decide) rfl (Nat.le_of_ble_eq_true rfl) ⟨(Nat.le_of_ble_eq_true rfl), (Nat.le_of_ble_eq_true rfl)⟩ ⟨(Nat.le_of_ble_eq_true rfl), (Nat.le_of_ble_eq_true rfl)⟩ ?_
  refine r_if_eq (tgt := 22) dX11_row_6 (by decide) (fun c_6 => ?_) (fun c_6 => ?_)
  · have c_6 := bI_0 c_6
    (try dsimp only [Gs_M] at c_6)
    have c_3 := c_6
    refine r_bipush (v := (-9)) dX11_row_22 (by decide) ?_
    refine r_iret dX11_row_24 rfl (Nat.le_refl _) ?_
    (try dsimp only [Gs_M])
    refine ⟨_, rfl, ?_, fr.rf⟩
    rw [rowX, if_neg c_3]
  · have c_6 := bI_n c_6
    (try dsimp only [Gs_M] at c_6)
    have c_3 := c_6
    obtain ⟨ji, hji, rfl⟩ := rngR (x := i) (n := r) c_3.1 (by omega) er
    obtain ⟨jw, hjw, rfl⟩ := rng (x := w) 2 (by decide) c_3.2
    refine r_aload_n dX11_row_9 rfl rfl ?_
    refine r_getR (q := 31) dX11_row_10 (ci := 11) (kf := 6) rfl (Nat.le_of_ble_eq_true rfl) (by decide) (by decide) rfl fl_X11_38 (Or.inl rfl) rfl ?_
    refine r_iload_n dX11_row_13 rfl rfl ?_
    refine r_iconst (v := 3) dX11_row_14 (by decide) ?_
    refine r_imulN (ji) (3) dX11_row_15 ?_
    refine r_iload_n dX11_row_16 rfl rfl ?_
    refine r_iaddN ((ji * 3)) (jw) dX11_row_17 ?_
    refine r_iald (j := 3 * ji + jw) dX11_row_18 rfl (Nat.le_of_ble_eq_true rfl) (congrArg nI (by omega)) (by omega) (by decide) ?_
    refine r_goto (tgt := 24) dX11_row_19 (by decide) ?_
    refine r_iret dX11_row_24 rfl (Nat.le_refl _) ?_
    (try dsimp only [Gs_M])
    refine ⟨_, rfl, ?_, fr.rf⟩
    rw [rowX, if_pos c_3, cl_nI (by omega), cl_nI (by omega)]
set_option maxRecDepth 20000 in
set_option maxHeartbeats 1000000 in
theorem s_X11_alterRow (g : pG) {S : pS} (hS : sOk S) (hR : ∃ r, r ≤ 10 ∧ S.2.2.2 0 8 = nI r) (i w v : Int32) : MS g mX11_alterRow 2 0 0 [.ref 0, .int i, .int w, .int v] (S) (eI (fun rx S1 => rx = rowX ((S).2.2.2 31) ((S).2.2.2 0 8) i w ∧ fr [31] (S) S1 ∧ S1.2.2.2 31 = altR ((S).2.2.2 31) ((S).2.2.2 0 8) i w v)) := by
  obtain ⟨M0, rfl⟩ := sOk_gs hS
  have hR0 := hR
  obtain ⟨r, hr, er⟩ := hR
  have er : (Gs M0).2.2.2 0 8 = nI r := er
  refine MS.of pn_X11 (Nat.le_of_ble_eq_true rfl) ?_
  refine r_aload_n dX11_alterRow_0 rfl rfl ?_
  refine r_iload_n dX11_alterRow_1 rfl rfl ?_
  refine r_iload_n dX11_alterRow_2 rfl rfl ?_
  refine r_callV_dI (ci := 11) dX11_alterRow_3 (s_X11_isRowCell g hS hR0 _ _) mf_X11_isRowCell mi_X11_isRowCell se_X11_X11_X11_isRowCell ml_X11_270 rfl rfl (Nat.le_of_ble_eq_true rfl) rfl (by decide) rfl (Nat.le_of_ble_eq_true rfl) ⟨(Nat.le_of_ble_eq_true rfl), (Nat.le_of_ble_eq_true rfl)⟩ ⟨(Nat.le_of_ble_eq_true rfl), (Nat.le_of_ble_eq_true rfl)⟩ ?_
  refine r_if_ne (tgt := 12) dX11_alterRow_6 (by decide) (fun c_6 => ?_) (fun c_6 => ?_)
  · have c_6 := bI_n c_6
    (try dsimp only [Gs_M] at c_6)
    have c_3 := c_6
    obtain ⟨ji, hji, rfl⟩ := rngR (x := i) (n := r) c_3.1 (by omega) er
    obtain ⟨jw, hjw, rfl⟩ := rng (x := w) 2 (by decide) c_3.2
    refine r_aload_n dX11_alterRow_12 rfl rfl ?_
    refine r_getR (q := 31) dX11_alterRow_13 (ci := 11) (kf := 6) rfl (Nat.le_of_ble_eq_true rfl) (by decide) (by decide) rfl fl_X11_38 (Or.inl rfl) rfl ?_
    refine r_iload_n dX11_alterRow_16 rfl rfl ?_
    refine r_iconst (v := 3) dX11_alterRow_17 (by decide) ?_
    refine r_imulN (ji) (3) dX11_alterRow_18 ?_
    refine r_iload_n dX11_alterRow_19 rfl rfl ?_
    refine r_iaddN ((ji * 3)) (jw) dX11_alterRow_20 ?_
    refine r_iald (j := 3 * ji + jw) dX11_alterRow_21 rfl (Nat.le_of_ble_eq_true rfl) (congrArg nI (by omega)) (by omega) (by decide) ?_
    refine r_istore dX11_alterRow_22 (by decide) ?_
    refine r_aload_n dX11_alterRow_24 rfl rfl ?_
    refine r_getR (q := 31) dX11_alterRow_25 (ci := 11) (kf := 6) rfl (Nat.le_of_ble_eq_true rfl) (by decide) (by decide) rfl fl_X11_38 (Or.inl rfl) rfl ?_
    refine r_iload_n dX11_alterRow_28 rfl rfl ?_
    refine r_iconst (v := 3) dX11_alterRow_29 (by decide) ?_
    refine r_imulN (ji) (3) dX11_alterRow_30 ?_
    refine r_iload_n dX11_alterRow_31 rfl rfl ?_
    refine r_iaddN ((ji * 3)) (jw) dX11_alterRow_32 ?_
    refine r_iload_n dX11_alterRow_33 rfl rfl ?_
    refine r_iast (j := 3 * ji + jw) dX11_alterRow_34 rfl (Nat.le_of_ble_eq_true rfl) (congrArg nI (by omega)) (by omega) (by decide) ?_
    refine r_iload dX11_alterRow_35 rfl ?_
    refine r_iret dX11_alterRow_37 rfl (Nat.le_refl _) ?_
    (try dsimp only [Gs_M])
    refine ⟨_, rfl, ?_, fr.rf.set (by decide), ?_⟩
    · rw [rowX, if_pos c_3, cl_nI (by omega), cl_nI (by omega)]
    · rw [altR, if_pos c_3, cl_nI (by omega), cl_nI (by omega)]
      exact mSet_at
  · have c_6 := bI_0 c_6
    (try dsimp only [Gs_M] at c_6)
    have c_3 := c_6
    refine r_bipush (v := (-9)) dX11_alterRow_9 (by decide) ?_
    refine r_iret dX11_alterRow_11 rfl (Nat.le_refl _) ?_
    (try dsimp only [Gs_M])
    refine ⟨_, rfl, ?_, fr.rf, ?_⟩
    · rw [rowX, if_neg c_3]
    · rw [altR, if_neg c_3]
      rfl
set_option maxRecDepth 20000 in
set_option maxHeartbeats 1000000 in
theorem s_X11_prove (g : pG) {S : pS} (hS : sOk S) (hI : InvR (vw S 1)) (hN : InvN (vw S 1)) (x n : Int32) : MS g mX11_prove 6 0 0 [.ref 0, .int x, .int n] (S) (eI (fun rx S1 => rx = proveX (vw (S) 1) x n ∧ fT [0, 10, 11, 12, 13, 14, 15, 16, 17, 18, 31] (S) S1 ∧ S1.2.2.2 31 = proveR (vw (S) 1) ((S).2.2.2 31) x n ∧ S1.2.2.2 0 8 = proveN (vw (S) 1) x n ((S).2.2.2 0 8) ∧ S1.2.2.2 0 3 = (S).2.2.2 0 3)) := by
  obtain ⟨M0, rfl⟩ := sOk_gs hS
  obtain ⟨h8, hpl⟩ := hI.pl
  refine MS.of pn_X11 (Nat.le_of_ble_eq_true rfl) ?_
  refine r_aload_n dX11_prove_0 rfl rfl ?_
  refine r_iload_n dX11_prove_1 rfl rfl ?_
  refine r_callV_dI (ci := 11) dX11_prove_2 (s_X11_isPlayer g hS hI _) mf_X11_isPlayer mi_X11_isPlayer se_X11_X11_X11_isPlayer ml_X11_150 rfl rfl (Nat.le_of_ble_eq_true rfl) rfl (by decide) rfl (Nat.le_of_ble_eq_true rfl) ⟨(Nat.le_of_ble_eq_true rfl), (Nat.le_of_ble_eq_true rfl)⟩ ⟨(Nat.le_of_ble_eq_true rfl), (Nat.le_of_ble_eq_true rfl)⟩ ?_
  refine r_if_eq (tgt := 19) dX11_prove_5 (by decide) (fun c_5 => ?_) (fun c_5 => ?_)
  · have c_5 := bI_0 c_5
    (try dsimp only [Gs_M] at c_5)
    have c_5 := c_5
    refine r_iconst (v := (-1)) dX11_prove_19 (by decide) ?_
    refine r_iret dX11_prove_20 rfl (Nat.le_refl _) ?_
    (try dsimp only [Gs_M])
    have hn_ : ¬ ((0 ≤ x ∧ x ≤ vw (Gs M0) 1 6 - 1) ∧ 1 ≤ n ∧ n ≤ 10) := (fun z => c_5 z.1)
    refine ⟨_, rfl, ?_, fT.rf, ?_, ?_, rfl⟩
    · rw [proveX, if_neg hn_]
    · rw [proveR, if_neg hn_]
      rfl
    · rw [proveN, if_neg hn_]
      rfl
  · have c_5 := bI_n c_5
    (try dsimp only [Gs_M] at c_5)
    refine r_iload_n dX11_prove_8 rfl rfl ?_
    refine r_iconst (v := 1) dX11_prove_9 (by decide) ?_
    refine r_icmp_lt (tgt := 19) dX11_prove_10 (by decide) (fun c_10 => ?_) (fun c_10 => ?_)
    · (try dsimp only [Gs_M] at c_10)
      refine r_iconst (v := (-1)) dX11_prove_19 (by decide) ?_
      refine r_iret dX11_prove_20 rfl (Nat.le_refl _) ?_
      (try dsimp only [Gs_M])
      have hn_ : ¬ ((0 ≤ x ∧ x ≤ vw (Gs M0) 1 6 - 1) ∧ 1 ≤ n ∧ n ≤ 10) := (fun z => Int32.not_lt.mpr z.2.1 c_10)
      refine ⟨_, rfl, ?_, fT.rf, ?_, ?_, rfl⟩
      · rw [proveX, if_neg hn_]
      · rw [proveR, if_neg hn_]
        rfl
      · rw [proveN, if_neg hn_]
        rfl
    · (try dsimp only [Gs_M] at c_10)
      refine r_iload_n dX11_prove_13 rfl rfl ?_
      refine r_bipush (v := 10) dX11_prove_14 (by decide) ?_
      refine r_icmp_le (tgt := 21) dX11_prove_16 (by decide) (fun c_16 => ?_) (fun c_16 => ?_)
      · (try dsimp only [Gs_M] at c_16)
        obtain ⟨k, hk, rfl⟩ := rngP (x := x) c_5 h8 hpl
        obtain ⟨m, hm1, hm, rfl⟩ := rg1 (x := n) 10 (by decide) c_10 c_16
        refine r_aload_n dX11_prove_21 rfl rfl ?_
        refine r_getR (q := 28) dX11_prove_22 (ci := 11) (kf := 4) rfl (Nat.le_of_ble_eq_true rfl) (by decide) (by decide) rfl fl_X11_27 (Or.inl rfl) rfl ?_
        refine r_iload_n dX11_prove_25 rfl rfl ?_
        refine r_iload_n dX11_prove_26 rfl rfl ?_
        refine r_aload_n dX11_prove_27 rfl rfl ?_
        refine r_getR (q := 31) dX11_prove_28 (ci := 11) (kf := 6) rfl (Nat.le_of_ble_eq_true rfl) (by decide) (by decide) rfl fl_X11_38 (Or.inl rfl) rfl ?_
        refine r_callV_eV (ci := 10) dX11_prove_31 (s_X10_makeRows31 g hS hI hN (k) (m) hk (by omega)) mf_X10_makeRows mi_X10_makeRows se_X10_X10_X10_makeRows ml_X11_266 rfl rfl (Nat.le_of_ble_eq_true rfl) rfl (by decide) rfl (Nat.le_of_ble_eq_true rfl) ⟨(Nat.le_of_ble_eq_true rfl), (Nat.le_of_ble_eq_true rfl)⟩ ⟨(Nat.le_of_ble_eq_true rfl), (Nat.le_of_ble_eq_true rfl)⟩ (fun S_31 q_31 z_31 => ?_)
        obtain ⟨f31, ok31, v31⟩ := q_31
        obtain ⟨Ma, rfl⟩ := sOk_gs ok31
        refine r_aload_n dX11_prove_34 rfl rfl ?_
        refine r_iload_n dX11_prove_35 rfl rfl ?_
        refine r_putI dX11_prove_36 (ci := 11) (kf := 8) rfl (Nat.le_of_ble_eq_true rfl) (by decide) (by decide) rfl fl_X11_111 (Or.inl rfl) rfl rfl rfl ?_
        refine r_iload_n dX11_prove_39 rfl rfl ?_
        refine r_iret dX11_prove_40 rfl (Nat.le_refl _) ?_
        (try dsimp only [Gs_M])
        have hp_ : (0 ≤ nI k ∧ nI k ≤ vw (Gs M0) 1 6 - 1) ∧ 1 ≤ nI m ∧ nI m ≤ 10 := ⟨c_5, ⟨Int32.not_lt.mp c_10, c_16⟩⟩
        refine ⟨_, rfl, ?_, (f31.mono (by decide)).out (by decide) (by omega), ?_, ?_, ?_⟩
        · rw [proveX, if_pos hp_]
        · rw [proveR, if_pos hp_, cl_nI (by omega), cl_nI (by omega), mSet_ne (by decide)]
          exact v31
        · rw [proveN, if_pos hp_, mSet_at, pk_us]
        · rw [mSet_at, pk_un (by decide)]
          exact congrFun (f31.1.2 0 (by decide)) 3
      · (try dsimp only [Gs_M] at c_16)
        refine r_iconst (v := (-1)) dX11_prove_19 (by decide) ?_
        refine r_iret dX11_prove_20 rfl (Nat.le_refl _) ?_
        (try dsimp only [Gs_M])
        have hn_ : ¬ ((0 ≤ x ∧ x ≤ vw (Gs M0) 1 6 - 1) ∧ 1 ≤ n ∧ n ≤ 10) := (fun z => c_16 z.2.2)
        refine ⟨_, rfl, ?_, fT.rf, ?_, ?_, rfl⟩
        · rw [proveX, if_neg hn_]
        · rw [proveR, if_neg hn_]
          rfl
        · rw [proveN, if_neg hn_]
          rfl
theorem prvR_lo {W : Nat → Int32} {k : Nat} {f : Nat → Int32} : ∀ n x, 3 * n ≤ x → prvR W k f n x = f x
  | 0, _, _ => rfl
  | n + 1, x, h => by rw [prvR, pk_un (by omega), pk_un (by omega), pk_un (by omega), prvR_lo n x (by omega)]
theorem prvR_at {W : Nat → Int32} {k : Nat} {f : Nat → Int32} : ∀ n i j, i < n → j < 3 → prvR W k f n (3 * i + j) = rowV (goR W i) k j
  | 0, i, _, h, _ => absurd h (Nat.not_lt_zero i)
  | n + 1, i, j, h, hj => by
    rw [prvR]
    by_cases e : i = n
    · subst e
      rcases (by omega : j = 0 ∨ j = 1 ∨ j = 2) with rfl | rfl | rfl
      · rw [pk_un (by omega), pk_un (by omega), pk_us]
      · rw [pk_un (by omega), pk_us]
      · rw [pk_us]
    · rw [pk_un (by omega), pk_un (by omega), pk_un (by omega)]
      exact prvR_at n i j (by omega) hj
theorem jdR_ok {W f : Nat → Int32} {k : Nat} : ∀ n, (∀ i j, i < n → j < 3 → f (3 * i + j) = rowV (goR W i) k j) → jdR W k f n = 0
  | 0, _ => rfl
  | n + 1, h => by
    rw [jdR, if_pos (jdR_ok n (fun i j a b => h i j (by omega) b)), if_pos ⟨h n 0 (by omega) (by omega), h n 1 (by omega) (by omega), h n 2 (by omega) (by omega)⟩]
theorem jdR_bad {W f : Nat → Int32} {k i j n : Nat} (h : ∀ y z, y < i → z < 3 → f (3 * y + z) = rowV (goR W y) k z) (hj : j < 3) (hb : ¬ f (3 * i + j) = rowV (goR W i) k j) (hn : i < n) (hn2 : n < 2 ^ 30) : nI (1 + i) = jdR W k f n := by
  have e : jdR W k f (i + 1) = nI (1 + i) := by
    rw [jdR, if_pos (jdR_ok i h), if_neg (fun z => hb (by
      rcases (by omega : j = 0 ∨ j = 1 ∨ j = 2) with rfl | rfl | rfl
      · exact z.1
      · exact z.2.1
      · exact z.2.2))]
  rw [← e]
  exact jdR_end (by rw [e]; exact nI_ne0 (by omega) (by omega)) hn
set_option maxRecDepth 20000 in
set_option maxHeartbeats 1000000 in
theorem s_X11_judge (g : pG) {S : pS} (hS : sOk S) (hI : InvR (vw S 1)) (hN : InvN (vw S 1)) (hR : ∃ r, r ≤ 10 ∧ S.2.2.2 0 8 = nI r) (x : Int32) : MS g mX11_judge 6 0 0 [.ref 0, .int x] (S) (eI (fun rx S1 => rx = judgeX (vw (S) 1) ((S).2.2.2 31) x ((S).2.2.2 0 8) ∧ fT [10, 11, 12, 13, 14, 15, 16, 17, 18, 32] (S) S1)) := by
  obtain ⟨M0, rfl⟩ := sOk_gs hS
  obtain ⟨h8, hpl⟩ := hI.pl
  obtain ⟨r, hr, er⟩ := hR
  have er : (Gs M0).2.2.2 0 8 = nI r := er
  refine MS.of pn_X11 (Nat.le_of_ble_eq_true rfl) ?_
  refine r_aload_n dX11_judge_0 rfl rfl ?_
  refine r_iload_n dX11_judge_1 rfl rfl ?_
  refine r_callV_dI (ci := 11) dX11_judge_2 (s_X11_isPlayer g hS hI _) mf_X11_isPlayer mi_X11_isPlayer se_X11_X11_X11_isPlayer ml_X11_150 rfl rfl (Nat.le_of_ble_eq_true rfl) rfl (by decide) rfl (Nat.le_of_ble_eq_true rfl) ⟨(Nat.le_of_ble_eq_true rfl), (Nat.le_of_ble_eq_true rfl)⟩ ⟨(Nat.le_of_ble_eq_true rfl), (Nat.le_of_ble_eq_true rfl)⟩ ?_
  refine r_if_ne (tgt := 10) dX11_judge_5 (by decide) (fun c_5 => ?_) (fun c_5 => ?_)
  · have c_5 := bI_n c_5
    (try dsimp only [Gs_M] at c_5)
    obtain ⟨k, hk, rfl⟩ := rngP (x := x) c_5 h8 hpl
    refine r_aload_n dX11_judge_10 rfl rfl ?_
    refine r_getR (q := 28) dX11_judge_11 (ci := 11) (kf := 4) rfl (Nat.le_of_ble_eq_true rfl) (by decide) (by decide) rfl fl_X11_27 (Or.inl rfl) rfl ?_
    refine r_iload_n dX11_judge_14 rfl rfl ?_
    refine r_aload_n dX11_judge_15 rfl rfl ?_
    refine r_getI dX11_judge_16 (ci := 11) (kf := 8) rfl (Nat.le_of_ble_eq_true rfl) (by decide) (by decide) rfl fl_X11_111 (Or.inl rfl) ?_
    rw [show (Gs M0).2.2.2 0 8 = nI r from er]
    refine r_aload_n dX11_judge_19 rfl rfl ?_
    refine r_getR (q := 32) dX11_judge_20 (ci := 11) (kf := 7) rfl (Nat.le_of_ble_eq_true rfl) (by decide) (by decide) rfl fl_X11_42 (Or.inl rfl) rfl ?_
    refine r_callV_eV (ci := 10) dX11_judge_23 (s_X10_makeRows32 g hS hI hN (k) (r) hk (by omega)) mf_X10_makeRows mi_X10_makeRows se_X10_X10_X10_makeRows ml_X11_266 rfl rfl (Nat.le_of_ble_eq_true rfl) rfl (by decide) rfl (Nat.le_of_ble_eq_true rfl) ⟨(Nat.le_of_ble_eq_true rfl), (Nat.le_of_ble_eq_true rfl)⟩ ⟨(Nat.le_of_ble_eq_true rfl), (Nat.le_of_ble_eq_true rfl)⟩ (fun S_23 q_23 z_23 => ?_)
    obtain ⟨f23, ok23, v23⟩ := q_23
    obtain ⟨Ma, rfl⟩ := sOk_gs ok23
    have er2 : (Gs Ma).2.2.2 0 8 = nI r := (congrFun (f23.1.2 0 (by decide)) 8).trans er
    refine r_iconst (v := 0) dX11_judge_26 (by decide) ?_
    refine r_istore_n dX11_judge_27 rfl (by decide) ?_
    have lp : ∀ (j_ : Nat) (c : Nat) (hm : ∀ y, y < c → Ma 31 y = Ma 32 y) (hc : c ≤ 3 * r), 3 * r - c < j_ → PW g mX11_judge (eN g (Gs M0).1 6 0 0 (eI (fun rx S1 => rx = judgeX (vw (Gs M0) 1) ((Gs M0).2.2.2 31) (nI k) (nI r) ∧ fT [10, 11, 12, 13, 14, 15, 16, 17, 18, 32] (Gs M0) S1))) 28 [some (.ref 0), some (.int (nI k)), some (.int (nI c))] [] (Gs Ma) 0 0 := by
      intro j_
      induction j_ with
      | zero => intro c hm hc hj; exact absurd hj (Nat.not_lt_zero _)
      | succ j_ ih =>
        intro c hm hc hj
        refine r_iload_n dX11_judge_28 rfl rfl ?_
        refine r_aload_n dX11_judge_29 rfl rfl ?_
        refine r_getI dX11_judge_30 (ci := 11) (kf := 8) rfl (Nat.le_of_ble_eq_true rfl) (by decide) (by decide) rfl fl_X11_111 (Or.inl rfl) ?_
        rw [show (Gs Ma).2.2.2 0 8 = nI r from er2]
        refine r_iconst (v := 3) dX11_judge_33 (by decide) ?_
        refine r_imulN (r) (3) dX11_judge_34 ?_
        refine r_icmp_geN (c) ((r * 3)) (tgt := 65) dX11_judge_35 (by decide) (by omega) (by omega) (fun c_35 => ?_) (fun c_35 => ?_)
        · (try dsimp only [Gs_M] at c_35)
          refine r_iconst (v := 0) dX11_judge_65 (by decide) ?_
          refine r_iret dX11_judge_66 rfl (Nat.le_refl _) ?_
          (try dsimp only [Gs_M])
          refine ⟨_, rfl, ?_, f23.mono (by decide)⟩
          rw [judgeX, if_pos c_5, cl_nI (by omega), cl_nI (by omega)]
          have e31 : Ma 31 = M0 31 := f23.1.2 31 (by decide)
          have v23 : Ma 32 = prvR (vw (Gs M0) 1) k (M0 32) r := v23
          exact (jdR_ok r (fun y z hy hz => by rw [← e31, hm _ (by omega), v23, prvR_at r y z (by omega) hz])).symm
        · (try dsimp only [Gs_M] at c_35)
          refine r_aload_n dX11_judge_38 rfl rfl ?_
          refine r_getR (q := 31) dX11_judge_39 (ci := 11) (kf := 6) rfl (Nat.le_of_ble_eq_true rfl) (by decide) (by decide) rfl fl_X11_38 (Or.inl rfl) rfl ?_
          refine r_iload_n dX11_judge_42 rfl rfl ?_
          refine r_iald (j := c) dX11_judge_43 rfl (Nat.le_of_ble_eq_true rfl) rfl (by omega) (by decide) ?_
          refine r_aload_n dX11_judge_44 rfl rfl ?_
          refine r_getR (q := 32) dX11_judge_45 (ci := 11) (kf := 7) rfl (Nat.le_of_ble_eq_true rfl) (by decide) (by decide) rfl fl_X11_42 (Or.inl rfl) rfl ?_
          refine r_iload_n dX11_judge_48 rfl rfl ?_
          refine r_iald (j := c) dX11_judge_49 rfl (Nat.le_of_ble_eq_true rfl) rfl (by omega) (by decide) ?_
          refine r_icmp_eq (tgt := 59) dX11_judge_50 (by decide) (fun c_50 => ?_) (fun c_50 => ?_)
          · (try dsimp only [Gs_M] at c_50)
            refine r_iinc (v := nI (c + 1)) dX11_judge_59 rfl (nI_1 _) (by decide) ?_
            refine r_goto (tgt := 28) dX11_judge_62 (by decide) ?_
            exact PW.subL (ih (c + 1) (fun y hy => by
              rcases Nat.lt_or_ge y c with h | h
              · exact hm y h
              · rw [show y = c by omega]; exact c_50) (by omega) (by omega)) (by repeat' first | exact True.intro | refine And.intro rfl ?_)
          · (try dsimp only [Gs_M] at c_50)
            refine r_iload_n dX11_judge_53 rfl rfl ?_
            refine r_iconst (v := 3) dX11_judge_54 (by decide) ?_
            refine r_idiv dX11_judge_55 (by decide) ?_
            rw [show nI c / 3 = nI (c / 3) from pk_div (d := 3) (by omega) (by omega) (by omega)]
            refine r_iconst (v := 1) dX11_judge_56 (by decide) ?_
            refine r_iaddN ((c / 3)) (1) dX11_judge_57 ?_
            refine r_iret dX11_judge_58 rfl (Nat.le_refl _) ?_
            (try dsimp only [Gs_M])
            refine ⟨_, rfl, ?_, f23.mono (by decide)⟩
            rw [judgeX, if_pos c_5, cl_nI (by omega), cl_nI (by omega), Nat.add_comm]
            have e31 : Ma 31 = M0 31 := f23.1.2 31 (by decide)
            have v23 : Ma 32 = prvR (vw (Gs M0) 1) k (M0 32) r := v23
            refine jdR_bad (i := c / 3) (j := c % 3) (fun y z hy hz => ?_) (Nat.mod_lt _ (by omega)) (fun z => c_50 ?_) (by omega) (by omega)
            · rw [← e31, hm _ (by omega), v23, prvR_at r y z (by omega) hz]
            · have e3 : 3 * (c / 3) + c % 3 = c := Nat.div_add_mod c 3
              rw [e3] at z
              rw [e31, z, v23, ← prvR_at (f := M0 32) r (c / 3) (c % 3) (by omega) (Nat.mod_lt _ (by omega)), e3]
    exact PW.subL (lp (3 * r + 1) 0 (fun y hy => absurd hy (Nat.not_lt_zero y)) (by omega) (by omega)) (by repeat' first | exact True.intro | refine And.intro rfl ?_)
  · have c_5 := bI_0 c_5
    (try dsimp only [Gs_M] at c_5)
    refine r_iconst (v := (-1)) dX11_judge_8 (by decide) ?_
    refine r_iret dX11_judge_9 rfl (Nat.le_refl _) ?_
    (try dsimp only [Gs_M])
    refine ⟨_, rfl, ?_, fT.rf⟩
    rw [judgeX, if_neg c_5]
