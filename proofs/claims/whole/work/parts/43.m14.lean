set_option maxRecDepth 20000 in
set_option maxHeartbeats 1000000 in
theorem s_X12_prove (g : pG) {S : pS} (hS : sOk S) (hI : InvR (S.2.2.2 55)) (x n : Int32) : MS g mX12_prove 8 0 0 [.ref 54, .int x, .int n] (S) (eI (fun rx S1 => rx = proveX ((S).2.2.2 55) x n ∧ kq [57, 59, 60, 63, 64] [17] (S) S1 ∧ S1.2.2.2 63 = proveR ((S).2.2.2 55) ((S).2.2.2 63) x n ∧ S1.2.2.2 54 17 = proveN ((S).2.2.2 55) x n ((S).2.2.2 54 17))) := by
  obtain ⟨M0, rfl⟩ := sOk_gs hS
  have hI : InvR (M0 55) := hI
  obtain ⟨h8, hpl⟩ := hI.pl
  have h8 : plR (M0 55) ≤ 8 := h8
  have hpl : M0 55 6 = nI (plR (M0 55)) := hpl
  refine MS.of pn_X12 (Nat.le_of_ble_eq_true rfl) ?_
  refine r_aload_n dX12_prove_0 rfl rfl ?_
  refine r_iload_n dX12_prove_1 rfl rfl ?_
  refine r_callV_dI (ci := 12) dX12_prove_2 (s_X12_isPlayer g (by exact ⟨rfl, rfl, rfl⟩) _) mf_X12_isPlayer mi_X12_isPlayer se_X12_X12_X12_isPlayer ml_X12_188 rfl rfl (Nat.le_of_ble_eq_true rfl) rfl (by decide) rfl (Nat.le_of_ble_eq_true rfl) ⟨(Nat.le_of_ble_eq_true rfl), (Nat.le_of_ble_eq_true rfl)⟩ ⟨(Nat.le_of_ble_eq_true rfl), (Nat.le_of_ble_eq_true rfl)⟩ ?_
  refine r_if_eq (tgt := 18) dX12_prove_5 (by decide) (fun c_5 => ?_) (fun c_5 => ?_)
  · have c_5 := bI_0 c_5
    (try dsimp only [Gs_M] at c_5)
    refine r_iconst (v := (-1)) dX12_prove_18 (by decide) ?_
    refine r_iret dX12_prove_19 rfl (Nat.le_refl _) ?_
    (try dsimp only [Gs_M])
    refine ⟨_, rfl, ?_, kq.rf hS, ?_, ?_⟩
    · rw [proveX, if_neg (fun z => c_5 z.1)]
    · rw [proveR, if_neg (fun z => c_5 z.1)]
      rfl
    · rw [proveN, if_neg (fun z => c_5 z.1)]
      rfl
  · have c_5 := bI_n c_5
    (try dsimp only [Gs_M] at c_5)
    refine r_iload_n dX12_prove_8 rfl rfl ?_
    refine r_iconst (v := 1) dX12_prove_9 (by decide) ?_
    refine r_bipush (v := 10) dX12_prove_10 (by decide) ?_
    refine r_callS_dI dX12_prove_12 (s_X12_in1 g _ _ _ _) mf_X12_in1 mt_X12_in1 ml_X12_63 rfl rfl (Nat.le_of_ble_eq_true rfl) ⟨(Nat.le_of_ble_eq_true rfl), (Nat.le_of_ble_eq_true rfl)⟩ ⟨(Nat.le_of_ble_eq_true rfl), (Nat.le_of_ble_eq_true rfl)⟩ ?_
    refine r_if_ne (tgt := 20) dX12_prove_15 (by decide) (fun c_15 => ?_) (fun c_15 => ?_)
    · have c_15 := bI_n c_15
      (try dsimp only [Gs_M] at c_15)
      obtain ⟨k, hk, rfl⟩ := rngP (x := x) c_5 h8 hpl
      obtain ⟨n, hn, rfl⟩ := rng (x := n) 10 (by decide) ⟨Int32.le_trans (by decide) c_15.1, c_15.2⟩
      refine r_aload_n dX12_prove_20 rfl rfl ?_
      refine r_getR (q := 55) dX12_prove_21 (ci := 12) (kf := 0) rfl (Nat.le_of_ble_eq_true rfl) (by decide) (by decide) rfl fl_X12_9 (Or.inl rfl) rfl ?_
      refine r_aload_n dX12_prove_24 rfl rfl ?_
      refine r_getR (q := 57) dX12_prove_25 (ci := 12) (kf := 2) rfl (Nat.le_of_ble_eq_true rfl) (by decide) (by decide) rfl fl_X12_16 (Or.inl rfl) rfl ?_
      refine r_callS_eV dX12_prove_28 (c_X12_copies g hS) mf_X12_copies mt_X12_copies ml_X12_169 rfl rfl (Nat.le_of_ble_eq_true rfl) ⟨(Nat.le_of_ble_eq_true rfl), (Nat.le_of_ble_eq_true rfl)⟩ ⟨(Nat.le_of_ble_eq_true rfl), (Nat.le_of_ble_eq_true rfl)⟩ (fun S_28 q_28 z_28 => ?_)
      obtain ⟨ka, l57⟩ := q_28
      obtain ⟨Ma, rfl⟩ := sOk_gs ka.1
      have a55 : Ma 55 = M0 55 := ka.2.1 55 (by decide) (by decide)
      have a57 : Ma 57 = ovr (M0 55) (M0 57) := l57
      have hIa : InvR (Ma 55) := a55 ▸ hI
      refine r_iconst (v := 0) dX12_prove_31 (by decide) ?_
      refine r_istore_n dX12_prove_32 rfl (by decide) ?_
      have lp : ∀ (j_ : Nat) (i : Nat) (S1 : pS) (hk : kp [55, 57, 59, 60, 63, 64] (Gs M0) S1) (h57 : S1.2.2.2 57 = ovr (M0 55) (M0 57)) (h55 : S1.2.2.2 55 = goR (M0 55) i) (hr : S1.2.2.2 63 = prvR (M0 55) k (M0 63) i) (hn : i ≤ n), n - i < j_ → PW g mX12_prove (eN g (Gs M0).1 8 0 0 (eI (fun rx S1 => rx = proveX ((Gs M0).2.2.2 55) (nI k) (nI n) ∧ kq [57, 59, 60, 63, 64] [17] (Gs M0) S1 ∧ S1.2.2.2 63 = proveR ((Gs M0).2.2.2 55) ((Gs M0).2.2.2 63) (nI k) (nI n) ∧ S1.2.2.2 54 17 = proveN ((Gs M0).2.2.2 55) (nI k) (nI n) ((Gs M0).2.2.2 54 17)))) 33 [some (.ref 54), some (.int (nI k)), some (.int (nI n)), some (.int (nI i)), none] [] (S1) 0 0 := by
        intro j_
        induction j_ with
        | zero => intro i S1 hk h57 h55 hr hn hj; exact absurd hj (Nat.not_lt_zero _)
        | succ j_ ih =>
          intro i S1 hk h57 h55 hr hn hj
          obtain ⟨M, rfl⟩ := sOk_gs hk.1
          have b55 : M 55 = goR (M0 55) i := h55
          have hIb : InvR (M 55) := b55 ▸ goR_inv hI i
          refine r_iload_n dX12_prove_33 rfl rfl ?_
          refine r_iload_n dX12_prove_34 rfl rfl ?_
          refine r_icmp_geN (i) (n) (tgt := 82) dX12_prove_35 (by decide) (by omega) (by omega) (fun c_35 => ?_) (fun c_35 => ?_)
          · (try dsimp only [Gs_M] at c_35)
            refine r_aload_n dX12_prove_82 rfl rfl ?_
            refine r_getR (q := 57) dX12_prove_83 (ci := 12) (kf := 2) rfl (Nat.le_of_ble_eq_true rfl) (by decide) (by decide) rfl fl_X12_16 (Or.inl rfl) rfl ?_
            refine r_aload_n dX12_prove_86 rfl rfl ?_
            refine r_getR (q := 55) dX12_prove_87 (ci := 12) (kf := 0) rfl (Nat.le_of_ble_eq_true rfl) (by decide) (by decide) rfl fl_X12_9 (Or.inl rfl) rfl ?_
            refine r_callS_eV dX12_prove_90 (c_X12_copies3 g h57 (kp.rf hk.1) (fun x hx => by show M 55 x = _; rw [b55]; exact goR_hi hI hx i)) mf_X12_copies mt_X12_copies ml_X12_169 rfl rfl (Nat.le_of_ble_eq_true rfl) ⟨(Nat.le_of_ble_eq_true rfl), (Nat.le_of_ble_eq_true rfl)⟩ ⟨(Nat.le_of_ble_eq_true rfl), (Nat.le_of_ble_eq_true rfl)⟩ (fun S_90 q_90 z_90 => ?_)
            obtain ⟨k90, v90⟩ := q_90
            obtain ⟨Mf, rfl⟩ := sOk_gs k90.1
            refine r_aload_n dX12_prove_93 rfl rfl ?_
            refine r_iload_n dX12_prove_94 rfl rfl ?_
            refine r_putI dX12_prove_95 (ci := 12) (kf := 17) rfl (Nat.le_of_ble_eq_true rfl) (by decide) (by decide) rfl fl_X12_173 (Or.inl rfl) rfl rfl rfl ?_
            refine r_iload_n dX12_prove_98 rfl rfl ?_
            refine r_iret dX12_prove_99 rfl (Nat.le_refl _) ?_
            (try dsimp only [Gs_M])
            have ei : i = n := by omega
            have kf : kp [57, 59, 60, 63, 64] (Gs M0) (Gs Mf) := ⟨k90.1, fun q a b => by
              by_cases e : q = 55
              · rw [e]; exact v90
              · exact (k90.2.1 q (by simp at a ⊢; omega) b).trans (hk.2.1 q (by simp at a ⊢; omega) b), fun f hf => (k90.2.2 f hf).trans (hk.2.2 f hf)⟩
            refine ⟨_, rfl, ?_, kf.kq.set (by decide), ?_, ?_⟩
            · rw [proveX, if_pos ⟨c_5, c_15⟩]
            · rw [mSet_ne (by decide), proveR, if_pos ⟨c_5, c_15⟩, cl_nI (by omega), cl_nI (by omega), ← ei]
              exact (k90.2.1 63 (by decide) (by decide)).trans hr
            · rw [mSet_at, pk_us, proveN, if_pos ⟨c_5, c_15⟩]
          · (try dsimp only [Gs_M] at c_35)
            refine r_aload_n dX12_prove_38 rfl rfl ?_
            refine r_iload_n dX12_prove_39 rfl rfl ?_
            refine r_callV_eV (ci := 12) dX12_prove_40 (s_X12_rowBy g hk.1 hIb k (by omega)) mf_X12_rowBy mi_X12_rowBy se_X12_X12_X12_rowBy ml_X12_244 rfl rfl (Nat.le_of_ble_eq_true rfl) rfl (by decide) rfl (Nat.le_of_ble_eq_true rfl) ⟨(Nat.le_of_ble_eq_true rfl), (Nat.le_of_ble_eq_true rfl)⟩ ⟨(Nat.le_of_ble_eq_true rfl), (Nat.le_of_ble_eq_true rfl)⟩ (fun S_40 q_40 z_40 => ?_)
            obtain ⟨k40, v40, hj40⟩ := q_40
            rw [show (Gs M).2.2.2 55 = _ from b55] at v40 hj40
            obtain ⟨Mr, rfl⟩ := sOk_gs k40.1
            have kz : kp [55, 57, 59, 60, 63, 64] (Gs M0) (Gs Mr) := hk.tr (k40.mono (by decide))
            have z57 : (Gs Mr).2.2.2 57 = ovr (M0 55) (M0 57) := (k40.2.1 57 (by decide) (by decide)).trans h57
            have z55 : (Gs Mr).2.2.2 55 = goR (M0 55) (i + 1) := v40
            have z63 : (Gs Mr).2.2.2 63 = prvR (M0 55) k (M0 63) i := (k40.2.1 63 (by decide) (by decide)).trans hr
            refine r_iconst (v := 0) dX12_prove_43 (by decide) ?_
            refine r_istore dX12_prove_44 (by decide) ?_
            refine r_iload dX12_prove_46 rfl ?_
            refine r_iconst (v := 3) dX12_prove_48 (by decide) ?_
            refine r_icmp_ge (tgt := 76) dX12_prove_49 (by decide) (fun c => absurd c (by decide)) (fun _ => ?_)
            refine r_aload_n dX12_prove_52 rfl rfl ?_
            refine r_getR (q := 63) dX12_prove_53 (ci := 12) (kf := 15) rfl (Nat.le_of_ble_eq_true rfl) (by decide) (by decide) rfl fl_X12_35 (Or.inl rfl) rfl ?_
            refine r_iconst (v := 3) dX12_prove_56 (by decide) ?_
            refine r_iload_n dX12_prove_57 rfl rfl ?_
            refine r_imulN (3) (i) dX12_prove_58 ?_
            refine r_iload dX12_prove_59 rfl ?_
            refine r_iaddN ((3 * i)) (0) dX12_prove_61 ?_
            refine r_aload_n dX12_prove_62 rfl rfl ?_
            refine r_getR (q := 64) dX12_prove_63 (ci := 12) (kf := 16) rfl (Nat.le_of_ble_eq_true rfl) (by decide) (by decide) rfl fl_X12_38 (Or.inl rfl) rfl ?_
            refine r_iload dX12_prove_66 rfl ?_
            refine r_iald (j := 0) dX12_prove_68 rfl (Nat.le_of_ble_eq_true rfl) rfl (by decide) (by decide) ?_
            refine r_iast (j := ((3 * i) + 0)) dX12_prove_69 rfl (Nat.le_of_ble_eq_true rfl) rfl (by omega) (by decide) ?_
            refine r_iinc (v := 1) dX12_prove_70 rfl (by decide) (by decide) ?_
            refine r_goto (tgt := 46) dX12_prove_73 (by decide) ?_
            refine r_iload dX12_prove_46 rfl ?_
            refine r_iconst (v := 3) dX12_prove_48 (by decide) ?_
            refine r_icmp_ge (tgt := 76) dX12_prove_49 (by decide) (fun c => absurd c (by decide)) (fun _ => ?_)
            refine r_aload_n dX12_prove_52 rfl rfl ?_
            refine r_getR (q := 63) dX12_prove_53 (ci := 12) (kf := 15) rfl (Nat.le_of_ble_eq_true rfl) (by decide) (by decide) rfl fl_X12_35 (Or.inl rfl) rfl ?_
            refine r_iconst (v := 3) dX12_prove_56 (by decide) ?_
            refine r_iload_n dX12_prove_57 rfl rfl ?_
            refine r_imulN (3) (i) dX12_prove_58 ?_
            refine r_iload dX12_prove_59 rfl ?_
            refine r_iaddN ((3 * i)) (1) dX12_prove_61 ?_
            refine r_aload_n dX12_prove_62 rfl rfl ?_
            refine r_getR (q := 64) dX12_prove_63 (ci := 12) (kf := 16) rfl (Nat.le_of_ble_eq_true rfl) (by decide) (by decide) rfl fl_X12_38 (Or.inl rfl) rfl ?_
            refine r_iload dX12_prove_66 rfl ?_
            refine r_iald (j := 1) dX12_prove_68 rfl (Nat.le_of_ble_eq_true rfl) rfl (by decide) (by decide) ?_
            refine r_iast (j := ((3 * i) + 1)) dX12_prove_69 rfl (Nat.le_of_ble_eq_true rfl) rfl (by omega) (by decide) ?_
            refine r_iinc (v := 2) dX12_prove_70 rfl (by decide) (by decide) ?_
            refine r_goto (tgt := 46) dX12_prove_73 (by decide) ?_
            refine r_iload dX12_prove_46 rfl ?_
            refine r_iconst (v := 3) dX12_prove_48 (by decide) ?_
            refine r_icmp_ge (tgt := 76) dX12_prove_49 (by decide) (fun c => absurd c (by decide)) (fun _ => ?_)
            refine r_aload_n dX12_prove_52 rfl rfl ?_
            refine r_getR (q := 63) dX12_prove_53 (ci := 12) (kf := 15) rfl (Nat.le_of_ble_eq_true rfl) (by decide) (by decide) rfl fl_X12_35 (Or.inl rfl) rfl ?_
            refine r_iconst (v := 3) dX12_prove_56 (by decide) ?_
            refine r_iload_n dX12_prove_57 rfl rfl ?_
            refine r_imulN (3) (i) dX12_prove_58 ?_
            refine r_iload dX12_prove_59 rfl ?_
            refine r_iaddN ((3 * i)) (2) dX12_prove_61 ?_
            refine r_aload_n dX12_prove_62 rfl rfl ?_
            refine r_getR (q := 64) dX12_prove_63 (ci := 12) (kf := 16) rfl (Nat.le_of_ble_eq_true rfl) (by decide) (by decide) rfl fl_X12_38 (Or.inl rfl) rfl ?_
            refine r_iload dX12_prove_66 rfl ?_
            refine r_iald (j := 2) dX12_prove_68 rfl (Nat.le_of_ble_eq_true rfl) rfl (by decide) (by decide) ?_
            refine r_iast (j := ((3 * i) + 2)) dX12_prove_69 rfl (Nat.le_of_ble_eq_true rfl) rfl (by omega) (by decide) ?_
            refine r_iinc (v := 3) dX12_prove_70 rfl (by decide) (by decide) ?_
            refine r_goto (tgt := 46) dX12_prove_73 (by decide) ?_
            refine r_iload dX12_prove_46 rfl ?_
            refine r_iconst (v := 3) dX12_prove_48 (by decide) ?_
            refine r_icmp_ge (tgt := 76) dX12_prove_49 (by decide) (fun _ => ?_) (fun c => absurd c (by decide))
            refine r_iinc (v := nI (i + 1)) dX12_prove_76 rfl (nI_1 _) (by decide) ?_
            refine r_goto (tgt := 33) dX12_prove_79 (by decide) ?_
            refine PW.subL (ih (i + 1) _ ((((kz.set (by decide) (by decide)).set (by decide) (by decide)).set (by decide) (by decide))) ?_ ?_ ?_ (by omega) (by omega)) (by repeat' first | exact True.intro | refine And.intro rfl ?_)
            · rw [mSet_ne (by decide), mSet_ne (by decide), mSet_ne (by decide)]; exact z57
            · rw [mSet_ne (by decide), mSet_ne (by decide), mSet_ne (by decide)]; exact z55
            · rw [mSet_at, mSet_at, mSet_at, z63, mSet_ne (i := 63) (j := 64) (by decide), mSet_ne (i := 63) (j := 64) (by decide), mSet_ne (i := 63) (j := 64) (by decide), hj40 0 (by decide), hj40 1 (by decide), hj40 2 (by decide)]
              rfl
      exact PW.subL (lp (n + 1) 0 _ (ka.mono (by decide)) a57 a55 (ka.2.1 63 (by decide) (by decide)) (by omega) (by omega)) (by repeat' first | exact True.intro | refine And.intro rfl ?_)
    · have c_15 := bI_0 c_15
      (try dsimp only [Gs_M] at c_15)
      refine r_iconst (v := (-1)) dX12_prove_18 (by decide) ?_
      refine r_iret dX12_prove_19 rfl (Nat.le_refl _) ?_
      (try dsimp only [Gs_M])
      refine ⟨_, rfl, ?_, kq.rf hS, ?_, ?_⟩
      · rw [proveX, if_neg (fun z => c_15 z.2)]
      · rw [proveR, if_neg (fun z => c_15 z.2)]
        rfl
      · rw [proveN, if_neg (fun z => c_15 z.2)]
        rfl
set_option maxRecDepth 20000 in
set_option maxHeartbeats 1000000 in
theorem s_X12_judge (g : pG) {S : pS} (hS : sOk S) (hI : InvR (S.2.2.2 55)) (hR : RwI S) (x : Int32) : MS g mX12_judge 8 0 0 [.ref 54, .int x] (S) (eI (fun rx S1 => rx = judgeX ((S).2.2.2 55) ((S).2.2.2 63) x ((S).2.2.2 54 17) ∧ kp [57, 59, 60, 64] (S) S1)) := by
  obtain ⟨M0, rfl⟩ := sOk_gs hS
  have hI : InvR (M0 55) := hI
  obtain ⟨h8, hpl⟩ := hI.pl
  have h8 : plR (M0 55) ≤ 8 := h8
  have hpl : M0 55 6 = nI (plR (M0 55)) := hpl
  obtain ⟨r, hr10, er⟩ := hR
  have er : M0 54 17 = nI r := er
  refine MS.of pn_X12 (Nat.le_of_ble_eq_true rfl) ?_
  refine r_aload_n dX12_judge_0 rfl rfl ?_
  refine r_iload_n dX12_judge_1 rfl rfl ?_
  refine r_callV_dI (ci := 12) dX12_judge_2 (s_X12_isPlayer g (by exact ⟨rfl, rfl, rfl⟩) _) mf_X12_isPlayer mi_X12_isPlayer se_X12_X12_X12_isPlayer ml_X12_188 rfl rfl (Nat.le_of_ble_eq_true rfl) rfl (by decide) rfl (Nat.le_of_ble_eq_true rfl) ⟨(Nat.le_of_ble_eq_true rfl), (Nat.le_of_ble_eq_true rfl)⟩ ⟨(Nat.le_of_ble_eq_true rfl), (Nat.le_of_ble_eq_true rfl)⟩ ?_
  refine r_if_ne (tgt := 10) dX12_judge_5 (by decide) (fun c_5 => ?_) (fun c_5 => ?_)
  · have c_5 := bI_n c_5
    (try dsimp only [Gs_M] at c_5)
    obtain ⟨k, hk, rfl⟩ := rngP (x := x) c_5 h8 hpl
    refine r_aload_n dX12_judge_10 rfl rfl ?_
    refine r_getR (q := 55) dX12_judge_11 (ci := 12) (kf := 0) rfl (Nat.le_of_ble_eq_true rfl) (by decide) (by decide) rfl fl_X12_9 (Or.inl rfl) rfl ?_
    refine r_aload_n dX12_judge_14 rfl rfl ?_
    refine r_getR (q := 57) dX12_judge_15 (ci := 12) (kf := 2) rfl (Nat.le_of_ble_eq_true rfl) (by decide) (by decide) rfl fl_X12_16 (Or.inl rfl) rfl ?_
    refine r_callS_eV dX12_judge_18 (c_X12_copies g hS) mf_X12_copies mt_X12_copies ml_X12_169 rfl rfl (Nat.le_of_ble_eq_true rfl) ⟨(Nat.le_of_ble_eq_true rfl), (Nat.le_of_ble_eq_true rfl)⟩ ⟨(Nat.le_of_ble_eq_true rfl), (Nat.le_of_ble_eq_true rfl)⟩ (fun S_18 q_18 z_18 => ?_)
    obtain ⟨ka, l57⟩ := q_18
    obtain ⟨Ma, rfl⟩ := sOk_gs ka.1
    have a55 : Ma 55 = M0 55 := ka.2.1 55 (by decide) (by decide)
    have a57 : Ma 57 = ovr (M0 55) (M0 57) := l57
    have hIa : InvR (Ma 55) := a55 ▸ hI
    refine r_iconst (v := 0) dX12_judge_21 (by decide) ?_
    refine r_istore_n dX12_judge_22 rfl (by decide) ?_
    refine r_iconst (v := 0) dX12_judge_23 (by decide) ?_
    refine r_istore_n dX12_judge_24 rfl (by decide) ?_
    have lp : ∀ (j_ : Nat) (i : Nat) (out : Int32) (S1 : pS) (hk : kp [55, 57, 59, 60, 64] (Gs M0) S1) (h57 : S1.2.2.2 57 = ovr (M0 55) (M0 57)) (h55 : S1.2.2.2 55 = goR (M0 55) i) (hd : out = jdR (M0 55) k (M0 63) i) (hin : i ≤ r), r - i < j_ → PW g mX12_judge (eN g (Gs M0).1 8 0 0 (eI (fun rx S1 => rx = judgeX ((Gs M0).2.2.2 55) ((Gs M0).2.2.2 63) (nI k) ((Gs M0).2.2.2 54 17) ∧ kp [57, 59, 60, 64] (Gs M0) S1))) 25 [some (.ref 54), some (.int (nI k)), some (.int out), some (.int (nI i)), none, none] [] (S1) 0 0 := by
      intro j_
      induction j_ with
      | zero => intro i out S1 hk h57 h55 hd hin hj; exact absurd hj (Nat.not_lt_zero _)
      | succ j_ ih =>
        intro i out S1 hk h57 h55 hd hin hj
        obtain ⟨M, rfl⟩ := sOk_gs hk.1
        have b55 : M 55 = goR (M0 55) i := h55
        have hIb : InvR (M 55) := b55 ▸ goR_inv hI i
        have b17 : M 54 17 = nI r := (hk.2.2 17 (by decide)).trans er
        refine r_iload_n dX12_judge_25 rfl rfl ?_
        refine r_aload_n dX12_judge_26 rfl rfl ?_
        refine r_getI dX12_judge_27 (ci := 12) (kf := 17) rfl (Nat.le_of_ble_eq_true rfl) (by decide) (by decide) rfl fl_X12_173 (Or.inl rfl) ?_
        rw [show (Gs M).2.2.2 54 17 = nI r from b17]
        refine r_icmp_geN (i) (r) (tgt := 112) dX12_judge_30 (by decide) (by omega) (by omega) (fun c_30 => ?_) (fun c_30 => ?_)
        · (try dsimp only [Gs_M] at c_30)
          refine r_aload_n dX12_judge_112 rfl rfl ?_
          refine r_getR (q := 57) dX12_judge_113 (ci := 12) (kf := 2) rfl (Nat.le_of_ble_eq_true rfl) (by decide) (by decide) rfl fl_X12_16 (Or.inl rfl) rfl ?_
          refine r_aload_n dX12_judge_116 rfl rfl ?_
          refine r_getR (q := 55) dX12_judge_117 (ci := 12) (kf := 0) rfl (Nat.le_of_ble_eq_true rfl) (by decide) (by decide) rfl fl_X12_9 (Or.inl rfl) rfl ?_
          refine r_callS_eV dX12_judge_120 (c_X12_copies3 g h57 (kp.rf hk.1) (fun x hx => by show M 55 x = _; rw [b55]; exact goR_hi hI hx i)) mf_X12_copies mt_X12_copies ml_X12_169 rfl rfl (Nat.le_of_ble_eq_true rfl) ⟨(Nat.le_of_ble_eq_true rfl), (Nat.le_of_ble_eq_true rfl)⟩ ⟨(Nat.le_of_ble_eq_true rfl), (Nat.le_of_ble_eq_true rfl)⟩ (fun S_120 q_120 z_120 => ?_)
          refine r_iload_n dX12_judge_123 rfl rfl ?_
          refine r_iret dX12_judge_124 rfl (Nat.le_refl _) ?_
          (try dsimp only [Gs_M])
          obtain ⟨k120, v120⟩ := q_120
          have kf : kp [57, 59, 60, 64] (Gs M0) S_120 := ⟨k120.1, fun q a b => by
            by_cases e : q = 55
            · rw [e]; exact v120
            · exact (k120.2.1 q (by simp at a ⊢; omega) b).trans (hk.2.1 q (by simp at a ⊢; omega) b), fun f hf => (k120.2.2 f hf).trans (hk.2.2 f hf)⟩
          refine ⟨_, rfl, ?_, kf⟩
          rw [judgeX, if_pos c_5, cl_nI (by omega), show M0 54 17 = _ from er, cl_nI (by omega)]
          rw [show r = i by omega]
          exact hd
        · (try dsimp only [Gs_M] at c_30)
          refine r_iload_n dX12_judge_33 rfl rfl ?_
          refine r_if_ne (tgt := 112) dX12_judge_34 (by decide) (fun c_34 => ?_) (fun c_34 => ?_)
          · (try dsimp only [Gs_M] at c_34)
            refine r_aload_n dX12_judge_112 rfl rfl ?_
            refine r_getR (q := 57) dX12_judge_113 (ci := 12) (kf := 2) rfl (Nat.le_of_ble_eq_true rfl) (by decide) (by decide) rfl fl_X12_16 (Or.inl rfl) rfl ?_
            refine r_aload_n dX12_judge_116 rfl rfl ?_
            refine r_getR (q := 55) dX12_judge_117 (ci := 12) (kf := 0) rfl (Nat.le_of_ble_eq_true rfl) (by decide) (by decide) rfl fl_X12_9 (Or.inl rfl) rfl ?_
            refine r_callS_eV dX12_judge_120 (c_X12_copies3 g h57 (kp.rf hk.1) (fun x hx => by show M 55 x = _; rw [b55]; exact goR_hi hI hx i)) mf_X12_copies mt_X12_copies ml_X12_169 rfl rfl (Nat.le_of_ble_eq_true rfl) ⟨(Nat.le_of_ble_eq_true rfl), (Nat.le_of_ble_eq_true rfl)⟩ ⟨(Nat.le_of_ble_eq_true rfl), (Nat.le_of_ble_eq_true rfl)⟩ (fun S_120 q_120 z_120 => ?_)
            refine r_iload_n dX12_judge_123 rfl rfl ?_
            refine r_iret dX12_judge_124 rfl (Nat.le_refl _) ?_
            (try dsimp only [Gs_M])
            obtain ⟨k120, v120⟩ := q_120
            have kf : kp [57, 59, 60, 64] (Gs M0) S_120 := ⟨k120.1, fun q a b => by
              by_cases e : q = 55
              · rw [e]; exact v120
              · exact (k120.2.1 q (by simp at a ⊢; omega) b).trans (hk.2.1 q (by simp at a ⊢; omega) b), fun f hf => (k120.2.2 f hf).trans (hk.2.2 f hf)⟩
            refine ⟨_, rfl, ?_, kf⟩
            rw [judgeX, if_pos c_5, cl_nI (by omega), show M0 54 17 = _ from er, cl_nI (by omega)]
            rw [← jdR_end (fun z => c_34 (hd.trans z)) hin]
            exact hd
          · (try dsimp only [Gs_M] at c_34)
            refine r_aload_n dX12_judge_37 rfl rfl ?_
            refine r_iload_n dX12_judge_38 rfl rfl ?_
            refine r_callV_eV (ci := 12) dX12_judge_39 (s_X12_rowBy g hk.1 hIb k (by omega)) mf_X12_rowBy mi_X12_rowBy se_X12_X12_X12_rowBy ml_X12_244 rfl rfl (Nat.le_of_ble_eq_true rfl) rfl (by decide) rfl (Nat.le_of_ble_eq_true rfl) ⟨(Nat.le_of_ble_eq_true rfl), (Nat.le_of_ble_eq_true rfl)⟩ ⟨(Nat.le_of_ble_eq_true rfl), (Nat.le_of_ble_eq_true rfl)⟩ (fun S_39 q_39 z_39 => ?_)
            obtain ⟨k39, v39, hj39⟩ := q_39
            rw [show (Gs M).2.2.2 55 = _ from b55] at v39 hj39
            obtain ⟨Mr, rfl⟩ := sOk_gs k39.1
            dsimp only [Gs_M] at hj39
            have kz : kp [55, 57, 59, 60, 64] (Gs M0) (Gs Mr) := hk.tr (k39.mono (by decide))
            have z57 : (Gs Mr).2.2.2 57 = ovr (M0 55) (M0 57) := (k39.2.1 57 (by decide) (by decide)).trans h57
            have z55 : (Gs Mr).2.2.2 55 = goR (M0 55) (i + 1) := v39
            have z63 : Mr 63 = M0 63 := kz.2.1 63 (by decide) (by decide)
            refine r_iconst (v := 1) dX12_judge_42 (by decide) ?_
            refine r_istore dX12_judge_43 (by decide) ?_
            refine r_iconst (v := 0) dX12_judge_45 (by decide) ?_
            refine r_istore dX12_judge_46 (by decide) ?_
            refine PW.subL (L' := [some (.ref 54), some (.int (nI k)), some (.int out), some (.int (nI i)), some (.int 1), some (.int 0)]) ?_ (by repeat' first | exact True.intro | refine And.intro rfl ?_)
            refine r_iload dX12_judge_48 rfl ?_
            refine r_iconst (v := 3) dX12_judge_50 (by decide) ?_
            refine r_icmp_ge (tgt := 93) dX12_judge_51 (by decide) (fun c => absurd c (by decide)) (fun _ => ?_)
            refine r_iload dX12_judge_54 rfl ?_
            refine r_if_eq (tgt := 84) dX12_judge_56 (by decide) (fun c => absurd c (by decide)) (fun _ => ?_)
            refine r_aload_n dX12_judge_59 rfl rfl ?_
            refine r_getR (q := 63) dX12_judge_60 (ci := 12) (kf := 15) rfl (Nat.le_of_ble_eq_true rfl) (by decide) (by decide) rfl fl_X12_35 (Or.inl rfl) rfl ?_
            refine r_iconst (v := 3) dX12_judge_63 (by decide) ?_
            refine r_iload_n dX12_judge_64 rfl rfl ?_
            refine r_imulN (3) (i) dX12_judge_65 ?_
            refine r_iload dX12_judge_66 rfl ?_
            refine r_iaddN ((3 * i)) (0) dX12_judge_68 ?_
            refine r_iald (j := ((3 * i) + 0)) dX12_judge_69 rfl (Nat.le_of_ble_eq_true rfl) rfl (by omega) (by decide) ?_
            refine r_aload_n dX12_judge_70 rfl rfl ?_
            refine r_getR (q := 64) dX12_judge_71 (ci := 12) (kf := 16) rfl (Nat.le_of_ble_eq_true rfl) (by decide) (by decide) rfl fl_X12_38 (Or.inl rfl) rfl ?_
            refine r_iload dX12_judge_74 rfl ?_
            refine r_iald (j := 0) dX12_judge_76 rfl (Nat.le_of_ble_eq_true rfl) rfl (by decide) (by decide) ?_
            refine r_icmp_ne (tgt := 84) dX12_judge_77 (by decide) (fun c_77 => ?_) (fun c_77 => ?_)
            · (try dsimp only [Gs_M] at c_77)
              have c_77_0 := c_77
              refine r_iconst (v := 0) dX12_judge_84 (by decide) ?_
              refine r_istore dX12_judge_85 (by decide) ?_
              refine r_iinc (v := 1) dX12_judge_87 rfl (by decide) (by decide) ?_
              refine r_goto (tgt := 48) dX12_judge_90 (by decide) ?_
              refine PW.subL (L' := [some (.ref 54), some (.int (nI k)), some (.int out), some (.int (nI i)), some (.int 0), some (.int 1)]) ?_ (by repeat' first | exact True.intro | refine And.intro rfl ?_)
              refine r_iload dX12_judge_48 rfl ?_
              refine r_iconst (v := 3) dX12_judge_50 (by decide) ?_
              refine r_icmp_ge (tgt := 93) dX12_judge_51 (by decide) (fun c => absurd c (by decide)) (fun _ => ?_)
              refine r_iload dX12_judge_54 rfl ?_
              refine r_if_eq (tgt := 84) dX12_judge_56 (by decide) (fun _ => ?_) (fun c => absurd c (by decide))
              refine r_iconst (v := 0) dX12_judge_84 (by decide) ?_
              refine r_istore dX12_judge_85 (by decide) ?_
              refine r_iinc (v := 2) dX12_judge_87 rfl (by decide) (by decide) ?_
              refine r_goto (tgt := 48) dX12_judge_90 (by decide) ?_
              refine PW.subL (L' := [some (.ref 54), some (.int (nI k)), some (.int out), some (.int (nI i)), some (.int 0), some (.int 2)]) ?_ (by repeat' first | exact True.intro | refine And.intro rfl ?_)
              refine r_iload dX12_judge_48 rfl ?_
              refine r_iconst (v := 3) dX12_judge_50 (by decide) ?_
              refine r_icmp_ge (tgt := 93) dX12_judge_51 (by decide) (fun c => absurd c (by decide)) (fun _ => ?_)
              refine r_iload dX12_judge_54 rfl ?_
              refine r_if_eq (tgt := 84) dX12_judge_56 (by decide) (fun _ => ?_) (fun c => absurd c (by decide))
              refine r_iconst (v := 0) dX12_judge_84 (by decide) ?_
              refine r_istore dX12_judge_85 (by decide) ?_
              refine r_iinc (v := 3) dX12_judge_87 rfl (by decide) (by decide) ?_
              refine r_goto (tgt := 48) dX12_judge_90 (by decide) ?_
              refine PW.subL (L' := [some (.ref 54), some (.int (nI k)), some (.int out), some (.int (nI i)), some (.int 0), some (.int 3)]) ?_ (by repeat' first | exact True.intro | refine And.intro rfl ?_)
              refine r_iload dX12_judge_48 rfl ?_
              refine r_iconst (v := 3) dX12_judge_50 (by decide) ?_
              refine r_icmp_ge (tgt := 93) dX12_judge_51 (by decide) (fun _ => ?_) (fun c => absurd c (by decide))
              refine r_iload dX12_judge_93 rfl ?_
              refine r_if_eq (tgt := 102) dX12_judge_95 (by decide) (fun _ => ?_) (fun c => absurd c (by decide))
              refine r_iconst (v := 1) dX12_judge_102 (by decide) ?_
              refine r_iload_n dX12_judge_103 rfl rfl ?_
              refine r_iaddN (1) (i) dX12_judge_104 ?_
              refine r_istore_n dX12_judge_105 rfl (by decide) ?_
              refine r_iinc (v := nI (i + 1)) dX12_judge_106 rfl (nI_1 _) (by decide) ?_
              refine r_goto (tgt := 25) dX12_judge_109 (by decide) ?_
              have y0 : M0 63 (3 * i + 0) ≠ rowV (goR (M0 55) i) k 0 := by
                have h := c_77_0
                rw [z63, hj39 0 (by decide)] at h
                exact h
              exact PW.subL (ih (i + 1) _ _ kz z57 z55 (jdR_n (hd.symm.trans c_34) (fun z => y0 z.1)) (by omega) (by omega)) (by repeat' first | exact True.intro | refine And.intro rfl ?_)
            · (try dsimp only [Gs_M] at c_77)
              have c_77_0 := c_77
              refine r_iconst (v := 1) dX12_judge_80 (by decide) ?_
              refine r_goto (tgt := 85) dX12_judge_81 (by decide) ?_
              refine r_istore dX12_judge_85 (by decide) ?_
              refine r_iinc (v := 1) dX12_judge_87 rfl (by decide) (by decide) ?_
              refine r_goto (tgt := 48) dX12_judge_90 (by decide) ?_
              refine PW.subL (L' := [some (.ref 54), some (.int (nI k)), some (.int out), some (.int (nI i)), some (.int 1), some (.int 1)]) ?_ (by repeat' first | exact True.intro | refine And.intro rfl ?_)
              refine r_iload dX12_judge_48 rfl ?_
              refine r_iconst (v := 3) dX12_judge_50 (by decide) ?_
              refine r_icmp_ge (tgt := 93) dX12_judge_51 (by decide) (fun c => absurd c (by decide)) (fun _ => ?_)
              refine r_iload dX12_judge_54 rfl ?_
              refine r_if_eq (tgt := 84) dX12_judge_56 (by decide) (fun c => absurd c (by decide)) (fun _ => ?_)
              refine r_aload_n dX12_judge_59 rfl rfl ?_
              refine r_getR (q := 63) dX12_judge_60 (ci := 12) (kf := 15) rfl (Nat.le_of_ble_eq_true rfl) (by decide) (by decide) rfl fl_X12_35 (Or.inl rfl) rfl ?_
              refine r_iconst (v := 3) dX12_judge_63 (by decide) ?_
              refine r_iload_n dX12_judge_64 rfl rfl ?_
              refine r_imulN (3) (i) dX12_judge_65 ?_
              refine r_iload dX12_judge_66 rfl ?_
              refine r_iaddN ((3 * i)) (1) dX12_judge_68 ?_
              refine r_iald (j := ((3 * i) + 1)) dX12_judge_69 rfl (Nat.le_of_ble_eq_true rfl) rfl (by omega) (by decide) ?_
              refine r_aload_n dX12_judge_70 rfl rfl ?_
              refine r_getR (q := 64) dX12_judge_71 (ci := 12) (kf := 16) rfl (Nat.le_of_ble_eq_true rfl) (by decide) (by decide) rfl fl_X12_38 (Or.inl rfl) rfl ?_
              refine r_iload dX12_judge_74 rfl ?_
              refine r_iald (j := 1) dX12_judge_76 rfl (Nat.le_of_ble_eq_true rfl) rfl (by decide) (by decide) ?_
              refine r_icmp_ne (tgt := 84) dX12_judge_77 (by decide) (fun c_77 => ?_) (fun c_77 => ?_)
              · (try dsimp only [Gs_M] at c_77)
                have c_77_1 := c_77
                refine r_iconst (v := 0) dX12_judge_84 (by decide) ?_
                refine r_istore dX12_judge_85 (by decide) ?_
                refine r_iinc (v := 2) dX12_judge_87 rfl (by decide) (by decide) ?_
                refine r_goto (tgt := 48) dX12_judge_90 (by decide) ?_
                refine PW.subL (L' := [some (.ref 54), some (.int (nI k)), some (.int out), some (.int (nI i)), some (.int 0), some (.int 2)]) ?_ (by repeat' first | exact True.intro | refine And.intro rfl ?_)
                refine r_iload dX12_judge_48 rfl ?_
                refine r_iconst (v := 3) dX12_judge_50 (by decide) ?_
                refine r_icmp_ge (tgt := 93) dX12_judge_51 (by decide) (fun c => absurd c (by decide)) (fun _ => ?_)
                refine r_iload dX12_judge_54 rfl ?_
                refine r_if_eq (tgt := 84) dX12_judge_56 (by decide) (fun _ => ?_) (fun c => absurd c (by decide))
                refine r_iconst (v := 0) dX12_judge_84 (by decide) ?_
                refine r_istore dX12_judge_85 (by decide) ?_
                refine r_iinc (v := 3) dX12_judge_87 rfl (by decide) (by decide) ?_
                refine r_goto (tgt := 48) dX12_judge_90 (by decide) ?_
                refine PW.subL (L' := [some (.ref 54), some (.int (nI k)), some (.int out), some (.int (nI i)), some (.int 0), some (.int 3)]) ?_ (by repeat' first | exact True.intro | refine And.intro rfl ?_)
                refine r_iload dX12_judge_48 rfl ?_
                refine r_iconst (v := 3) dX12_judge_50 (by decide) ?_
                refine r_icmp_ge (tgt := 93) dX12_judge_51 (by decide) (fun _ => ?_) (fun c => absurd c (by decide))
                refine r_iload dX12_judge_93 rfl ?_
                refine r_if_eq (tgt := 102) dX12_judge_95 (by decide) (fun _ => ?_) (fun c => absurd c (by decide))
                refine r_iconst (v := 1) dX12_judge_102 (by decide) ?_
                refine r_iload_n dX12_judge_103 rfl rfl ?_
                refine r_iaddN (1) (i) dX12_judge_104 ?_
                refine r_istore_n dX12_judge_105 rfl (by decide) ?_
                refine r_iinc (v := nI (i + 1)) dX12_judge_106 rfl (nI_1 _) (by decide) ?_
                refine r_goto (tgt := 25) dX12_judge_109 (by decide) ?_
                have y0 : M0 63 (3 * i + 0) = rowV (goR (M0 55) i) k 0 := by
                  have h := c_77_0
                  rw [z63, hj39 0 (by decide)] at h
                  exact h
                have y1 : M0 63 (3 * i + 1) ≠ rowV (goR (M0 55) i) k 1 := by
                  have h := c_77_1
                  rw [z63, hj39 1 (by decide)] at h
                  exact h
                exact PW.subL (ih (i + 1) _ _ kz z57 z55 (jdR_n (hd.symm.trans c_34) (fun z => y1 z.2.1)) (by omega) (by omega)) (by repeat' first | exact True.intro | refine And.intro rfl ?_)
              · (try dsimp only [Gs_M] at c_77)
                have c_77_1 := c_77
                refine r_iconst (v := 1) dX12_judge_80 (by decide) ?_
                refine r_goto (tgt := 85) dX12_judge_81 (by decide) ?_
                refine r_istore dX12_judge_85 (by decide) ?_
                refine r_iinc (v := 2) dX12_judge_87 rfl (by decide) (by decide) ?_
                refine r_goto (tgt := 48) dX12_judge_90 (by decide) ?_
                refine PW.subL (L' := [some (.ref 54), some (.int (nI k)), some (.int out), some (.int (nI i)), some (.int 1), some (.int 2)]) ?_ (by repeat' first | exact True.intro | refine And.intro rfl ?_)
                refine r_iload dX12_judge_48 rfl ?_
                refine r_iconst (v := 3) dX12_judge_50 (by decide) ?_
                refine r_icmp_ge (tgt := 93) dX12_judge_51 (by decide) (fun c => absurd c (by decide)) (fun _ => ?_)
                refine r_iload dX12_judge_54 rfl ?_
                refine r_if_eq (tgt := 84) dX12_judge_56 (by decide) (fun c => absurd c (by decide)) (fun _ => ?_)
                refine r_aload_n dX12_judge_59 rfl rfl ?_
                refine r_getR (q := 63) dX12_judge_60 (ci := 12) (kf := 15) rfl (Nat.le_of_ble_eq_true rfl) (by decide) (by decide) rfl fl_X12_35 (Or.inl rfl) rfl ?_
                refine r_iconst (v := 3) dX12_judge_63 (by decide) ?_
                refine r_iload_n dX12_judge_64 rfl rfl ?_
                refine r_imulN (3) (i) dX12_judge_65 ?_
                refine r_iload dX12_judge_66 rfl ?_
                refine r_iaddN ((3 * i)) (2) dX12_judge_68 ?_
                refine r_iald (j := ((3 * i) + 2)) dX12_judge_69 rfl (Nat.le_of_ble_eq_true rfl) rfl (by omega) (by decide) ?_
                refine r_aload_n dX12_judge_70 rfl rfl ?_
                refine r_getR (q := 64) dX12_judge_71 (ci := 12) (kf := 16) rfl (Nat.le_of_ble_eq_true rfl) (by decide) (by decide) rfl fl_X12_38 (Or.inl rfl) rfl ?_
                refine r_iload dX12_judge_74 rfl ?_
                refine r_iald (j := 2) dX12_judge_76 rfl (Nat.le_of_ble_eq_true rfl) rfl (by decide) (by decide) ?_
                refine r_icmp_ne (tgt := 84) dX12_judge_77 (by decide) (fun c_77 => ?_) (fun c_77 => ?_)
                · (try dsimp only [Gs_M] at c_77)
                  have c_77_2 := c_77
                  refine r_iconst (v := 0) dX12_judge_84 (by decide) ?_
                  refine r_istore dX12_judge_85 (by decide) ?_
                  refine r_iinc (v := 3) dX12_judge_87 rfl (by decide) (by decide) ?_
                  refine r_goto (tgt := 48) dX12_judge_90 (by decide) ?_
                  refine PW.subL (L' := [some (.ref 54), some (.int (nI k)), some (.int out), some (.int (nI i)), some (.int 0), some (.int 3)]) ?_ (by repeat' first | exact True.intro | refine And.intro rfl ?_)
                  refine r_iload dX12_judge_48 rfl ?_
                  refine r_iconst (v := 3) dX12_judge_50 (by decide) ?_
                  refine r_icmp_ge (tgt := 93) dX12_judge_51 (by decide) (fun _ => ?_) (fun c => absurd c (by decide))
                  refine r_iload dX12_judge_93 rfl ?_
                  refine r_if_eq (tgt := 102) dX12_judge_95 (by decide) (fun _ => ?_) (fun c => absurd c (by decide))
                  refine r_iconst (v := 1) dX12_judge_102 (by decide) ?_
                  refine r_iload_n dX12_judge_103 rfl rfl ?_
                  refine r_iaddN (1) (i) dX12_judge_104 ?_
                  refine r_istore_n dX12_judge_105 rfl (by decide) ?_
                  refine r_iinc (v := nI (i + 1)) dX12_judge_106 rfl (nI_1 _) (by decide) ?_
                  refine r_goto (tgt := 25) dX12_judge_109 (by decide) ?_
                  have y0 : M0 63 (3 * i + 0) = rowV (goR (M0 55) i) k 0 := by
                    have h := c_77_0
                    rw [z63, hj39 0 (by decide)] at h
                    exact h
                  have y1 : M0 63 (3 * i + 1) = rowV (goR (M0 55) i) k 1 := by
                    have h := c_77_1
                    rw [z63, hj39 1 (by decide)] at h
                    exact h
                  have y2 : M0 63 (3 * i + 2) ≠ rowV (goR (M0 55) i) k 2 := by
                    have h := c_77_2
                    rw [z63, hj39 2 (by decide)] at h
                    exact h
                  exact PW.subL (ih (i + 1) _ _ kz z57 z55 (jdR_n (hd.symm.trans c_34) (fun z => y2 z.2.2)) (by omega) (by omega)) (by repeat' first | exact True.intro | refine And.intro rfl ?_)
                · (try dsimp only [Gs_M] at c_77)
                  have c_77_2 := c_77
                  refine r_iconst (v := 1) dX12_judge_80 (by decide) ?_
                  refine r_goto (tgt := 85) dX12_judge_81 (by decide) ?_
                  refine r_istore dX12_judge_85 (by decide) ?_
                  refine r_iinc (v := 3) dX12_judge_87 rfl (by decide) (by decide) ?_
                  refine r_goto (tgt := 48) dX12_judge_90 (by decide) ?_
                  refine PW.subL (L' := [some (.ref 54), some (.int (nI k)), some (.int out), some (.int (nI i)), some (.int 1), some (.int 3)]) ?_ (by repeat' first | exact True.intro | refine And.intro rfl ?_)
                  refine r_iload dX12_judge_48 rfl ?_
                  refine r_iconst (v := 3) dX12_judge_50 (by decide) ?_
                  refine r_icmp_ge (tgt := 93) dX12_judge_51 (by decide) (fun _ => ?_) (fun c => absurd c (by decide))
                  refine r_iload dX12_judge_93 rfl ?_
                  refine r_if_eq (tgt := 102) dX12_judge_95 (by decide) (fun c => absurd c (by decide)) (fun _ => ?_)
                  refine r_iconst (v := 0) dX12_judge_98 (by decide) ?_
                  refine r_goto (tgt := 105) dX12_judge_99 (by decide) ?_
                  refine r_istore_n dX12_judge_105 rfl (by decide) ?_
                  refine r_iinc (v := nI (i + 1)) dX12_judge_106 rfl (nI_1 _) (by decide) ?_
                  refine r_goto (tgt := 25) dX12_judge_109 (by decide) ?_
                  have y0 : M0 63 (3 * i + 0) = rowV (goR (M0 55) i) k 0 := by
                    have h := c_77_0
                    rw [z63, hj39 0 (by decide)] at h
                    exact h
                  have y1 : M0 63 (3 * i + 1) = rowV (goR (M0 55) i) k 1 := by
                    have h := c_77_1
                    rw [z63, hj39 1 (by decide)] at h
                    exact h
                  have y2 : M0 63 (3 * i + 2) = rowV (goR (M0 55) i) k 2 := by
                    have h := c_77_2
                    rw [z63, hj39 2 (by decide)] at h
                    exact h
                  exact PW.subL (ih (i + 1) _ _ kz z57 z55 (jdR_y (hd.symm.trans c_34) y0 y1 y2) (by omega) (by omega)) (by repeat' first | exact True.intro | refine And.intro rfl ?_)
    exact PW.subL (lp (r + 1) 0 0 _ (ka.mono (by decide)) a57 a55 rfl (by omega) (by omega)) (by repeat' first | exact True.intro | refine And.intro rfl ?_)
  · have c_5 := bI_0 c_5
    (try dsimp only [Gs_M] at c_5)
    refine r_iconst (v := (-1)) dX12_judge_8 (by decide) ?_
    refine r_iret dX12_judge_9 rfl (Nat.le_refl _) ?_
    (try dsimp only [Gs_M])
    refine ⟨_, rfl, ?_, kp.rf hS⟩
    rw [judgeX, if_neg c_5]
