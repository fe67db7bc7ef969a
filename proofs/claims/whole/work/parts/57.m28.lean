def fdB (e : Int64) (k : Nat) : Int32 := ((e >>> ((nI (8 * k)).toInt64 &&& 63)) &&& 255).toInt32
def fdA (b : Nat → Int32) (t : Nat) (e : Int64) : Nat → Nat → Int32
  | 0 => b
  | k + 1 => upd (fdA b t e k) (t + k) (fdB e k)
def feedX (t : Nat) (n : Int32) : Int32 := if 1 ≤ n ∧ n ≤ 8 then (if t + cl n ≤ 200 then nI (t + cl n) else -2) else -1
def feedT (b : Nat → Int32) (t : Nat) (e : Int64) (n : Int32) : Nat → Int32 := if 1 ≤ n ∧ n ≤ 8 then (if t + cl n ≤ 200 then fdA b t e (cl n) else b) else b
def feedN (t : Nat) (n : Int32) : Nat := if 1 ≤ n ∧ n ≤ 8 then (if t + cl n ≤ 200 then t + cl n else t) else t
set_option maxRecDepth 20000 in
set_option maxHeartbeats 1000000 in
theorem s_X12_feed (g : pG) {S : pS} (hS : sOk S) {t : Nat} (ht : t ≤ 200) (en : S.2.2.2 54 9 = nI t) (e : Int64) (n : Int32) : MS g mX12_feed 2 0 0 [.ref 54, .long e, .int n] (S) (eI (fun rx S1 => rx = feedX t n ∧ kq [61] [9] (S) S1 ∧ S1.2.2.2 61 = feedT ((S).2.2.2 61) t e n ∧ S1.2.2.2 54 9 = nI (feedN t n))) := by
  obtain ⟨M0, rfl⟩ := sOk_gs hS
  have en : M0 54 9 = nI t := en
  refine MS.of pn_X12 (Nat.le_of_ble_eq_true rfl) ?_
  refine r_iload_n dX12_feed_0 rfl rfl ?_
  refine r_iconst (v := 1) dX12_feed_1 (by decide) ?_
  refine r_bipush (v := 8) dX12_feed_2 (by decide) ?_
  refine r_callS_dI dX12_feed_4 (s_X12_in1 g _ _ _ _) mf_X12_in1 mt_X12_in1 ml_X12_63 rfl rfl (Nat.le_of_ble_eq_true rfl) ⟨(Nat.le_of_ble_eq_true rfl), (Nat.le_of_ble_eq_true rfl)⟩ ⟨(Nat.le_of_ble_eq_true rfl), (Nat.le_of_ble_eq_true rfl)⟩ ?_
  refine r_if_ne (tgt := 12) dX12_feed_7 (by decide) (fun c_7 => ?_) (fun c_7 => ?_)
  · have c_7 := bI_n c_7
    (try dsimp only [Gs_M] at c_7)
    have c_4 := c_7
    obtain ⟨jn, hjn, rfl⟩ := rng (x := n) 8 (by decide) ⟨Int32.le_trans (by decide) c_4.1, c_4.2⟩
    refine r_aload_n dX12_feed_12 rfl rfl ?_
    refine r_getI dX12_feed_13 (ci := 12) (kf := 9) rfl (Nat.le_of_ble_eq_true rfl) (by decide) (by decide) rfl fl_X12_117 (Or.inl rfl) ?_
    rw [show (Gs M0).2.2.2 54 9 = nI t from en]
    refine r_iload_n dX12_feed_16 rfl rfl ?_
    refine r_iaddN (t) (jn) dX12_feed_17 ?_
    refine r_sipush (v := 200) dX12_feed_18 (by decide) ?_
    refine r_icmp_leN ((t + jn)) (200) (tgt := 27) dX12_feed_21 (by decide) (by omega) (by omega) (fun c_21 => ?_) (fun c_21 => ?_)
    · (try dsimp only [Gs_M] at c_21)
      refine r_iconst (v := 0) dX12_feed_27 (by decide) ?_
      refine r_istore dX12_feed_28 (by decide) ?_
      have lp : ∀ (j_ : Nat) (k : Nat) (S1 : pS) (hk : kq [61] [9] (Gs M0) S1) (h61 : S1.2.2.2 61 = fdA (M0 61) t e k) (h9 : S1.2.2.2 54 9 = nI (t + k)) (hkj : k ≤ jn), jn - k < j_ → PW g mX12_feed (eN g (Gs M0).1 2 0 0 (eI (fun rx S1 => rx = feedX t (nI jn) ∧ kq [61] [9] (Gs M0) S1 ∧ S1.2.2.2 61 = feedT ((Gs M0).2.2.2 61) t e (nI jn) ∧ S1.2.2.2 54 9 = nI (feedN t (nI jn))))) 30 [some (.ref 54), some (.long e), none, some (.int (nI jn)), some (.int (nI k))] [] (S1) 0 0 := by
        intro j_
        induction j_ with
        | zero => intro k S1 hk h61 h9 hkj hj; exact absurd hj (Nat.not_lt_zero _)
        | succ j_ ih =>
          intro k S1 hk h61 h9 hkj hj
          obtain ⟨M, rfl⟩ := sOk_gs hk.1
          have h61 : M 61 = fdA (M0 61) t e k := h61
          have h9 : M 54 9 = nI (t + k) := h9
          refine r_iload dX12_feed_30 rfl ?_
          refine r_iload_n dX12_feed_32 rfl rfl ?_
          refine r_icmp_geN (k) (jn) (tgt := 73) dX12_feed_33 (by decide) (by omega) (by omega) (fun c_33 => ?_) (fun c_33 => ?_)
          · (try dsimp only [Gs_M] at c_33)
            refine r_aload_n dX12_feed_73 rfl rfl ?_
            refine r_getI dX12_feed_74 (ci := 12) (kf := 9) rfl (Nat.le_of_ble_eq_true rfl) (by decide) (by decide) rfl fl_X12_117 (Or.inl rfl) ?_
            have ek : k = jn := by omega
            subst ek
            rw [show (Gs M).2.2.2 54 9 = nI (t + k) from h9]
            refine r_iret dX12_feed_77 rfl (Nat.le_refl _) ?_
            (try dsimp only [Gs_M])
            refine ⟨_, rfl, ?_, hk, ?_, ?_⟩
            · rw [feedX, if_pos c_4, cl_nI (by omega), if_pos (by omega)]
            · rw [feedT, if_pos c_4, cl_nI (by omega), if_pos (by omega)]
              exact h61
            · rw [feedN, if_pos c_4, cl_nI (by omega), if_pos (by omega)]
              exact h9
          · (try dsimp only [Gs_M] at c_33)
            refine r_aload_n dX12_feed_36 rfl rfl ?_
            refine r_getR (q := 61) dX12_feed_37 (ci := 12) (kf := 8) rfl (Nat.le_of_ble_eq_true rfl) (by decide) (by decide) rfl fl_X12_28 (Or.inl rfl) rfl ?_
            refine r_aload_n dX12_feed_40 rfl rfl ?_
            refine r_getI dX12_feed_41 (ci := 12) (kf := 9) rfl (Nat.le_of_ble_eq_true rfl) (by decide) (by decide) rfl fl_X12_117 (Or.inl rfl) ?_
            rw [show (Gs M).2.2.2 54 9 = nI (t + k) from h9]
            refine r_lload_n dX12_feed_44 rfl rfl ?_
            refine r_bipush (v := 8) dX12_feed_45 (by decide) ?_
            refine r_iload dX12_feed_47 rfl ?_
            refine r_imulN (8) (k) dX12_feed_49 ?_
            refine r_lshr dX12_feed_50 rfl ?_
            refine r_ldc2 dX12_feed_51 kl_X12_164 ?_
            refine r_land dX12_feed_54 ?_
            refine r_l2i dX12_feed_55 rfl ?_
            refine r_iast (j := (t + k)) dX12_feed_56 rfl (Nat.le_of_ble_eq_true rfl) rfl (by omega) (by decide) ?_
            refine r_aload_n dX12_feed_57 rfl rfl ?_
            refine r_dup dX12_feed_58 rfl ?_
            refine r_getI dX12_feed_59 (ci := 12) (kf := 9) rfl (Nat.le_of_ble_eq_true rfl) (by decide) (by decide) rfl fl_X12_117 (Or.inl rfl) ?_
            rw [show ∀ v, (mSet (Gs M) 61 (t + k) v).2.2.2 54 9 = nI (t + k) from fun _ => h9]
            refine r_iconst (v := 1) dX12_feed_62 (by decide) ?_
            refine r_iaddN ((t + k)) (1) dX12_feed_63 ?_
            refine r_putI dX12_feed_64 (ci := 12) (kf := 9) rfl (Nat.le_of_ble_eq_true rfl) (by decide) (by decide) rfl fl_X12_117 (Or.inl rfl) rfl rfl rfl ?_
            refine r_iinc (v := nI (k + 1)) dX12_feed_67 rfl (nI_1 _) (by decide) ?_
            refine r_goto (tgt := 30) dX12_feed_70 (by decide) ?_
            exact PW.subL (ih (k + 1) _ ((hk.arr (by decide) (by decide)).set (by decide)) (by rw [mSet_ne (by decide), mSet_at]; show upd (M 61) _ _ = _; rw [h61]; rfl) (by rw [mSet_at, pk_us]; rfl) (by omega) (by omega)) (by repeat' first | exact True.intro | refine And.intro rfl ?_)
      exact PW.subL (lp (jn + 1) 0 _ (kq.rf hS) rfl (en.trans (by rw [Nat.add_zero])) (by omega) (by omega)) (by repeat' first | exact True.intro | refine And.intro rfl ?_)
    · (try dsimp only [Gs_M] at c_21)
      refine r_bipush (v := (-2)) dX12_feed_24 (by decide) ?_
      refine r_iret dX12_feed_26 rfl (Nat.le_refl _) ?_
      (try dsimp only [Gs_M])
      refine ⟨_, rfl, ?_, kq.rf hS, ?_, ?_⟩
      · rw [feedX, if_pos c_4, cl_nI (by omega), if_neg (by omega)]
      · rw [feedT, if_pos c_4, cl_nI (by omega), if_neg (by omega)]
        rfl
      · rw [feedN, if_pos c_4, cl_nI (by omega), if_neg (by omega)]
        exact en
  · have c_7 := bI_0 c_7
    (try dsimp only [Gs_M] at c_7)
    have c_4 := c_7
    refine r_iconst (v := (-1)) dX12_feed_10 (by decide) ?_
    refine r_iret dX12_feed_11 rfl (Nat.le_refl _) ?_
    (try dsimp only [Gs_M])
    refine ⟨_, rfl, ?_, kq.rf hS, ?_, ?_⟩
    · rw [feedX, if_neg c_4]
    · rw [feedT, if_neg c_4]
      rfl
    · rw [feedN, if_neg c_4]
      exact en
