theorem welR_0 {W : Nat → Int32} {set : Int32} : welR W set 0 = W := rfl
theorem welR_pl {W : Nat → Int32} {set : Int32} (n : Nat) : plR (welR W set n) = plR W := by unfold plR; rw [welR_6]
theorem welR_tw {T W : Nat → Int32} {set : Int32} : ∀ n i, ((∀ k, k < n → i ≠ 16 + 11 * k + 2) → T i = W i) → welR T set n i = welR W set n i
  | 0, i, h => h (fun k hk => absurd hk (Nat.not_lt_zero k))
  | n + 1, i, h => by
    rw [welR, welR]
    unfold upd
    by_cases e : i = 16 + 11 * n + 2
    · rw [if_pos e, if_pos e]
    · rw [if_neg e, if_neg e]
      exact welR_tw n i (fun z => h (fun k hk => by
        rcases Nat.lt_or_ge k n with c | c
        · exact z k c
        · rw [show k = n by omega]; exact e))
theorem welR_ne {W : Nat → Int32} {set : Int32} {i : Nat} : ∀ n, (∀ k, k < n → i ≠ 16 + 11 * k + 2) → welR W set n i = W i
  | 0, _ => rfl
  | n + 1, h => by rw [welR, pk_un (h n (by omega)), welR_ne n (fun k hk => h k (by omega))]
theorem welR_2 {W : Nat → Int32} {s t : Int32} (n : Nat) : welR (welR W s n) t n = welR W t n := by
  funext i
  exact welR_tw n i (fun z => welR_ne n z)
set_option maxRecDepth 20000 in
set_option maxHeartbeats 1000000 in
theorem s_X10_showOfSet (g : pG) {S : pS} (hS : sOk S) (hI : InvR (vw S 10)) (hN : InvN (vw S 10)) (set : Int32) : MS g mX10_showOfSet 5 0 0 [.ref 28, .int set] (S) (eI (fun x S1 => x = showB (welR (vw (S) 10) set (plR (vw (S) 10))) ∧ fT LT (S) S1 ∧ sOk S1 ∧ vw S1 10 = welR (vw (S) 10) set (plR (vw (S) 10)))) := by
  obtain ⟨M0, rfl⟩ := sOk_gs hS
  obtain ⟨h8, hpl⟩ := hI.pl
  refine MS.of pn_X10 (Nat.le_of_ble_eq_true rfl) ?_
  have lp : ∀ (j_ : Nat) (k : Nat) (S1 : pS) (ok : sOk S1) (hk : fT LT (Gs M0) S1) (hv : vw S1 10 = welR (vw (Gs M0) 10) set k) (hkp : k ≤ plR (vw (Gs M0) 10)), plR (vw (Gs M0) 10) - k < j_ → PW g mX10_showOfSet (eN g (Gs M0).1 5 0 0 (eI (fun x S1 => x = showB (welR (vw (Gs M0) 10) set (plR (vw (Gs M0) 10))) ∧ fT LT (Gs M0) S1 ∧ sOk S1 ∧ vw S1 10 = welR (vw (Gs M0) 10) set (plR (vw (Gs M0) 10))))) 2 [some (.ref 28), some (.int set), some (.int (nI k))] [] (S1) 0 0 := by
    intro j_
    induction j_ with
    | zero => intro k S1 ok hk hv hkp hj; exact absurd hj (Nat.not_lt_zero _)
    | succ j_ ih =>
      intro k S1 ok hk hv hkp hj
      obtain ⟨M, rfl⟩ := sOk_gs ok
      refine r_iload_n dX10_showOfSet_2 rfl rfl ?_
      refine r_aload_n dX10_showOfSet_3 rfl rfl ?_
      refine r_getR (q := 10) dX10_showOfSet_4 (ci := 10) (kf := 1) rfl (Nat.le_of_ble_eq_true rfl) (by decide) (by decide) rfl fl_X10_15 (Or.inl rfl) rfl ?_
      refine r_getI dX10_showOfSet_7 (ci := 0) (kf := 6) rfl (Nat.le_of_ble_eq_true rfl) (by decide) (by decide) rfl fl_X10_62 (Or.inl rfl) ?_
      rw [show (Gs M).2.2.2 10 6 = nI (plR (vw (Gs M0) 10)) by rw [← hpl]; show vw (Gs M) 10 6 = _; rw [hv, welR_6]]
      refine r_icmp_geN (k) (plR (vw (Gs M0) 10)) (tgt := 42) dX10_showOfSet_10 (by decide) (by omega) (by omega) (fun c_10 => ?_) (fun c_10 => ?_)
      · (try dsimp only [Gs_M] at c_10)
        refine r_aload_n dX10_showOfSet_42 rfl rfl ?_
        have ek : k = plR (vw (Gs M0) 10) := by omega
        subst ek
        refine r_callV_eI (ci := 10) dX10_showOfSet_43 (s_X10_showOfTried g ok (hv ▸ welR_inv hI set _ h8) (hv ▸ welR_N hN _)) mf_X10_showOfTried mi_X10_showOfTried se_X10_X10_X10_showOfTried ml_X10_53 rfl rfl (Nat.le_of_ble_eq_true rfl) rfl (by decide) rfl (Nat.le_of_ble_eq_true rfl) ⟨(Nat.le_of_ble_eq_true rfl), (Nat.le_of_ble_eq_true rfl)⟩ ⟨(Nat.le_of_ble_eq_true rfl), (Nat.le_of_ble_eq_true rfl)⟩ (fun r_43 S_43 q_43 z_43 => ?_)
        obtain ⟨x43, f43, ok43, v43⟩ := q_43
        obtain ⟨Mb, rfl⟩ := sOk_gs ok43
        refine r_iret dX10_showOfSet_46 rfl (Nat.le_refl _) ?_
        (try dsimp only [Gs_M])
        exact ⟨_, rfl, by rw [x43, hv], hk.tr f43, ok43, v43.trans hv⟩
      · (try dsimp only [Gs_M] at c_10)
        refine r_aload_n dX10_showOfSet_13 rfl rfl ?_
        refine r_getR (q := 10) dX10_showOfSet_14 (ci := 10) (kf := 1) rfl (Nat.le_of_ble_eq_true rfl) (by decide) (by decide) rfl fl_X10_15 (Or.inl rfl) rfl ?_
        refine r_getR (q := (10 + 5)) dX10_showOfSet_17 (ci := 0) (kf := 4) rfl (Nat.le_of_ble_eq_true rfl) (by decide) (by decide) rfl fl_X10_65 (Or.inl rfl) (CoG (Or.inr (Or.inl rfl))).2.2.2.2.2.2.2.1 ?_
        refine r_iload_n dX10_showOfSet_20 rfl rfl ?_
        refine r_iload_n dX10_showOfSet_21 rfl rfl ?_
        refine r_iload_n dX10_showOfSet_22 rfl rfl ?_
        refine r_ishr dX10_showOfSet_23 ?_
        refine r_iconst (v := 1) dX10_showOfSet_24 (by decide) ?_
        refine r_iand dX10_showOfSet_25 ?_
        refine r_iconst (v := 1) dX10_showOfSet_26 (by decide) ?_
        refine r_icmp_ne (tgt := 34) dX10_showOfSet_27 (by decide) (fun c_27 => ?_) (fun c_27 => ?_)
        · (try dsimp only [Gs_M] at c_27)
          refine r_iconst (v := 1) dX10_showOfSet_34 (by decide) ?_
          refine r_iast (j := k) dX10_showOfSet_35 (CoG (Or.inr (Or.inl rfl))).2.2.1.2.2.2.2.1 (Co_la5 (CoG (Or.inr (Or.inl rfl)))) rfl (by omega) (by decide) ?_
          refine r_iinc (v := nI (k + 1)) dX10_showOfSet_36 rfl (nI_1 _) (by decide) ?_
          refine r_goto (tgt := 2) dX10_showOfSet_39 (by decide) ?_
          have zv : vw (mSet (Gs M) 15 k 1) 10 = welR (vw (Gs M0) 10) set (k + 1) := by rw [show ∀ x, mSet (Gs M) 15 k x = mSet (Gs M) (10 + 5) k x from fun _ => rfl, vs_i (by omega), hv, welR, if_neg c_27]
          exact PW.subL (ih (k + 1) _ ok (fT.of (hk.1.set (by decide)) zv (welR_inv hI set _ (by omega)) (welR_N hN _)) zv (by omega) (by omega)) (by repeat' first | exact True.intro | refine And.intro rfl ?_)
        · (try dsimp only [Gs_M] at c_27)
          refine r_iconst (v := 0) dX10_showOfSet_30 (by decide) ?_
          refine r_goto (tgt := 35) dX10_showOfSet_31 (by decide) ?_
          refine r_iast (j := k) dX10_showOfSet_35 (CoG (Or.inr (Or.inl rfl))).2.2.1.2.2.2.2.1 (Co_la5 (CoG (Or.inr (Or.inl rfl)))) rfl (by omega) (by decide) ?_
          refine r_iinc (v := nI (k + 1)) dX10_showOfSet_36 rfl (nI_1 _) (by decide) ?_
          refine r_goto (tgt := 2) dX10_showOfSet_39 (by decide) ?_
          have zv : vw (mSet (Gs M) 15 k 0) 10 = welR (vw (Gs M0) 10) set (k + 1) := by rw [show ∀ x, mSet (Gs M) 15 k x = mSet (Gs M) (10 + 5) k x from fun _ => rfl, vs_i (by omega), hv, welR, if_pos c_27]
          exact PW.subL (ih (k + 1) _ ok (fT.of (hk.1.set (by decide)) zv (welR_inv hI set _ (by omega)) (welR_N hN _)) zv (by omega) (by omega)) (by repeat' first | exact True.intro | refine And.intro rfl ?_)
  refine r_iconst (v := 0) dX10_showOfSet_0 (by decide) ?_
  refine r_istore_n dX10_showOfSet_1 rfl (by decide) ?_
  exact PW.subL (lp (plR (vw (Gs M0) 10) + 1) 0 _ hS fT.rf welR_0.symm (by omega) (by omega)) (by repeat' first | exact True.intro | refine And.intro rfl ?_)
def fwW (W : Nat → Int32) (v : Int32) (s : Nat) : Nat := if fewR W v s < 0 then 9 else pcR 8 (cl (fewR W v s))
theorem fwW_k {W : Nat → Int32} {v : Int32} {s : Nat} (e : fewR W v s = fewR W v (s + 1)) : fwW W v s = fwW W v (s + 1) := by unfold fwW; rw [e]
theorem fwW_y {W : Nat → Int32} {v : Int32} {s : Nat} (hs : s < 256) (e : nI s = fewR W v (s + 1)) : pcR 8 s = fwW W v (s + 1) := by unfold fwW; rw [← e, if_neg (nI_pos (by omega)), cl_nI (by omega)]
theorem fwW_le {W : Nat → Int32} {v : Int32} {s : Nat} (hs : s ≤ 256) : fwW W v s ≤ 9 := by
  unfold fwW
  split
  · exact Nat.le_refl _
  · next c =>
    rcases fewR_ok (W := W) (v := v) s with h | ⟨j, hj, e⟩
    · exact absurd (by rw [h]; decide) c
    · rw [e, cl_nI (by omega)]
      have := pcR_le j (by omega)
      omega
theorem fwW_lt {W : Nat → Int32} {v : Int32} {s : Nat} (hs : s < 256) : pcR 8 s < fwW W v s ↔ (fewR W v s < 0 ∨ pcR 8 s < pcR 8 (cl (fewR W v s))) := by
  have := pcR_le s hs
  unfold fwW
  by_cases c : fewR W v s < 0
  · rw [if_pos c]; exact ⟨fun _ => Or.inl c, fun _ => by omega⟩
  · rw [if_neg c]; exact ⟨Or.inr, fun z => z.elim (fun y => absurd y c) id⟩
theorem fewR_0 {W : Nat → Int32} {v : Int32} : fewR W v 0 = -3 := rfl
theorem fwW_0 {W : Nat → Int32} {v : Int32} : fwW W v 0 = 9 := by unfold fwW; rw [fewR_0, if_pos (by decide)]
set_option maxRecDepth 20000 in
set_option maxHeartbeats 1000000 in
theorem s_X10_fewestWell (g : pG) {S : pS} (hS : sOk S) (hI : InvR (vw S 1)) (hN : InvN (vw S 1)) (v : Int32) : MS g mX10_fewestWell 6 0 0 [.ref 28, .int v] (S) (eI (fun x S1 => x = fewR (vw (S) 1) v (2 ^ plR (vw (S) 1)) ∧ fT LT (S) S1 ∧ sOk S1)) := by
  obtain ⟨M0, rfl⟩ := sOk_gs hS
  obtain ⟨h8, hpl⟩ := hI.pl
  have hpw := pow_le8 h8
  have hpw0 : 0 < 2 ^ plR (vw (Gs M0) 1) := Nat.two_pow_pos _
  refine MS.of pn_X10 (Nat.le_of_ble_eq_true rfl) ?_
  refine r_aload_n dX10_fewestWell_0 rfl rfl ?_
  refine r_getR (q := 10) dX10_fewestWell_1 (ci := 10) (kf := 1) rfl (Nat.le_of_ble_eq_true rfl) (by decide) (by decide) rfl fl_X10_15 (Or.inl rfl) rfl ?_
  refine r_aload_n dX10_fewestWell_4 rfl rfl ?_
  refine r_getR (q := 1) dX10_fewestWell_5 (ci := 10) (kf := 0) rfl (Nat.le_of_ble_eq_true rfl) (by decide) (by decide) rfl fl_X10_9 (Or.inl rfl) rfl ?_
  refine r_callV_eV (ci := 0) dX10_fewestWell_8 (c_X0_copyFrom g hS hI hN) mf_X0_copyFrom mi_X0_copyFrom se_X0_X0_X0_copyFrom ml_X10_28 rfl rfl (Nat.le_of_ble_eq_true rfl) rfl (by decide) rfl (Nat.le_of_ble_eq_true rfl) ⟨(Nat.le_of_ble_eq_true rfl), (Nat.le_of_ble_eq_true rfl)⟩ ⟨(Nat.le_of_ble_eq_true rfl), (Nat.le_of_ble_eq_true rfl)⟩ (fun S_8 q_8 z_8 => ?_)
  obtain ⟨f8, ok8, v8⟩ := q_8
  obtain ⟨Ma, rfl⟩ := sOk_gs ok8
  refine r_aload_n dX10_fewestWell_11 rfl rfl ?_
  refine r_getR (q := 1) dX10_fewestWell_12 (ci := 10) (kf := 0) rfl (Nat.le_of_ble_eq_true rfl) (by decide) (by decide) rfl fl_X10_9 (Or.inl rfl) rfl ?_
  refine r_callV_dI (ci := 0) dX10_fewestWell_15 (s_X0_illPlayers g (CoG (Or.inl rfl)) (by rw [nowT f8]; exact hI)) mf_X0_illPlayers mi_X0_illPlayers se_X0_X0_X0_illPlayers ml_X10_75 rfl rfl (Nat.le_of_ble_eq_true rfl) rfl (by decide) rfl (Nat.le_of_ble_eq_true rfl) ⟨(Nat.le_of_ble_eq_true rfl), (Nat.le_of_ble_eq_true rfl)⟩ ⟨(Nat.le_of_ble_eq_true rfl), (Nat.le_of_ble_eq_true rfl)⟩ ?_
  rw [nowT f8]
  refine r_istore_n dX10_fewestWell_18 rfl (by decide) ?_
  refine r_bipush (v := (-3)) dX10_fewestWell_19 (by decide) ?_
  refine r_istore_n dX10_fewestWell_21 rfl (by decide) ?_
  refine r_bipush (v := 9) dX10_fewestWell_22 (by decide) ?_
  refine r_istore dX10_fewestWell_24 (by decide) ?_
  refine r_iconst (v := 0) dX10_fewestWell_26 (by decide) ?_
  refine r_istore dX10_fewestWell_27 (by decide) ?_
  have lp : ∀ (j_ : Nat) (n : Nat) (f : Int32) (w : Nat) (S1 : pS) (ok : sOk S1) (hk : fT LT (Gs M0) S1) (hv : vw S1 10 = (vw (Gs M0) 1) ∨ ∃ s, vw S1 10 = welR (vw (Gs M0) 1) s (plR (vw (Gs M0) 1))) (hf : f = fewR (vw (Gs M0) 1) v n) (hw : w = fwW (vw (Gs M0) 1) v n) (hn : n ≤ 2 ^ plR (vw (Gs M0) 1)), 2 ^ plR (vw (Gs M0) 1) - n < j_ → PW g mX10_fewestWell (eN g (Gs M0).1 6 0 0 (eI (fun x S1 => x = fewR (vw (Gs M0) 1) v (2 ^ plR (vw (Gs M0) 1)) ∧ fT LT (Gs M0) S1 ∧ sOk S1))) 29 [some (.ref 28), some (.int v), some (.int (illR (vw (Gs M0) 1) (plR (vw (Gs M0) 1)))), some (.int f), some (.int (nI w)), some (.int (nI n)), none] [] (S1) 0 0 := by
    intro j_
    induction j_ with
    | zero => intro n f w S1 ok hk hv hf hw hn hj; exact absurd hj (Nat.not_lt_zero _)
    | succ j_ ih =>
      intro n f w S1 ok hk hv hf hw hn hj
      obtain ⟨M, rfl⟩ := sOk_gs ok
      have hw9 := fwW_le (W := (vw (Gs M0) 1)) (v := v) (s := n) (by omega)
      rw [← hw] at hw9
      have ep : plR (vw (Gs M) 10) = plR (vw (Gs M0) 1) := by
        rcases hv with e | ⟨s, e⟩
        · rw [e]
        · rw [e, welR_pl]
      have ew : ∀ t, welR (vw (Gs M) 10) t (plR (vw (Gs M) 10)) = welR (vw (Gs M0) 1) t (plR (vw (Gs M0) 1)) := by
        intro t
        rw [ep]
        rcases hv with e | ⟨s, e⟩
        · rw [e]
        · rw [e, welR_2]
      have hI10 : InvR (vw (Gs M) 10) := by
        rcases hv with e | ⟨s, e⟩
        · rw [e]; exact hI
        · rw [e]; exact welR_inv hI s _ h8
      have hN10 : InvN (vw (Gs M) 10) := by
        rcases hv with e | ⟨s, e⟩
        · rw [e]; exact hN
        · rw [e]; exact welR_N hN _
      refine r_iload dX10_fewestWell_29 rfl ?_
      refine r_iconst (v := 1) dX10_fewestWell_31 (by decide) ?_
      refine r_aload_n dX10_fewestWell_32 rfl rfl ?_
      refine r_getR (q := 1) dX10_fewestWell_33 (ci := 10) (kf := 0) rfl (Nat.le_of_ble_eq_true rfl) (by decide) (by decide) rfl fl_X10_9 (Or.inl rfl) rfl ?_
      refine r_getI dX10_fewestWell_36 (ci := 0) (kf := 6) rfl (Nat.le_of_ble_eq_true rfl) (by decide) (by decide) rfl fl_X10_62 (Or.inl rfl) ?_
      rw [show (Gs M).2.2.2 1 6 = nI (plR (vw (Gs M0) 1)) by rw [← hpl, ← nowT hk]; rfl]
      refine r_ishl dX10_fewestWell_39 ?_
      rw [shl_pl h8]
      refine r_icmp_geN (n) ((2 ^ plR (vw (Gs M0) 1))) (tgt := 87) dX10_fewestWell_40 (by decide) (by omega) (by omega) (fun c_40 => ?_) (fun c_40 => ?_)
      · (try dsimp only [Gs_M] at c_40)
        refine r_iload_n dX10_fewestWell_87 rfl rfl ?_
        refine r_iret dX10_fewestWell_88 rfl (Nat.le_refl _) ?_
        (try dsimp only [Gs_M])
        have en : n = 2 ^ plR (vw (Gs M0) 1) := by omega
        subst en
        exact ⟨_, rfl, hf, hk, ok⟩
      · (try dsimp only [Gs_M] at c_40)
        refine r_iload dX10_fewestWell_43 rfl ?_
        refine r_callS_dI dX10_fewestWell_45 (s_J6_bitCount_0f7a4 g (n) (by omega) _) mf_J6_bitCount_0f7a4 mt_J6_bitCount_0f7a4 ml_X10_78 rfl rfl (Nat.le_of_ble_eq_true rfl) ⟨(Nat.le_of_ble_eq_true rfl), (Nat.le_of_ble_eq_true rfl)⟩ ⟨(Nat.le_of_ble_eq_true rfl), (Nat.le_of_ble_eq_true rfl)⟩ ?_
        refine r_istore dX10_fewestWell_48 (by decide) ?_
        have l1 := pcR_le n (by omega)
        refine r_iload dX10_fewestWell_50 rfl ?_
        refine r_iload_n dX10_fewestWell_52 rfl rfl ?_
        refine r_iand dX10_fewestWell_53 ?_
        refine r_if_ne (tgt := 81) dX10_fewestWell_54 (by decide) (fun c_54 => ?_) (fun c_54 => ?_)
        · (try dsimp only [Gs_M] at c_54)
          refine r_iinc (v := nI (n + 1)) dX10_fewestWell_81 rfl (nI_1 _) (by decide) ?_
          refine r_goto (tgt := 29) dX10_fewestWell_84 (by decide) ?_
          have y : fewR (vw (Gs M0) 1) v n = fewR (vw (Gs M0) 1) v (n + 1) := fewR_n rfl (fun z => c_54 z.1.1)
          exact PW.subL (ih (n + 1) _ _ _ ok hk hv (hf.trans y) (hw.trans (fwW_k y)) (by omega) (by omega)) (by repeat' first | exact True.intro | refine And.intro rfl ?_)
        · (try dsimp only [Gs_M] at c_54)
          refine r_iload dX10_fewestWell_57 rfl ?_
          refine r_iload dX10_fewestWell_59 rfl ?_
          refine r_icmp_geN ((pcR 8 n)) (w) (tgt := 81) dX10_fewestWell_61 (by decide) (by omega) (by omega) (fun c_61 => ?_) (fun c_61 => ?_)
          · (try dsimp only [Gs_M] at c_61)
            refine r_iinc (v := nI (n + 1)) dX10_fewestWell_81 rfl (nI_1 _) (by decide) ?_
            refine r_goto (tgt := 29) dX10_fewestWell_84 (by decide) ?_
            have y : fewR (vw (Gs M0) 1) v n = fewR (vw (Gs M0) 1) v (n + 1) := fewR_n rfl (fun z => absurd ((fwW_lt (by omega)).mpr z.1.2) (by rw [← hw]; omega))
            exact PW.subL (ih (n + 1) _ _ _ ok hk hv (hf.trans y) (hw.trans (fwW_k y)) (by omega) (by omega)) (by repeat' first | exact True.intro | refine And.intro rfl ?_)
          · (try dsimp only [Gs_M] at c_61)
            refine r_aload_n dX10_fewestWell_64 rfl rfl ?_
            refine r_iload dX10_fewestWell_65 rfl ?_
            refine r_callV_eI (ci := 10) dX10_fewestWell_67 (s_X10_showOfSet g ok hI10 hN10 _) mf_X10_showOfSet mi_X10_showOfSet se_X10_X10_X10_showOfSet ml_X10_83 rfl rfl (Nat.le_of_ble_eq_true rfl) rfl (by decide) rfl (Nat.le_of_ble_eq_true rfl) ⟨(Nat.le_of_ble_eq_true rfl), (Nat.le_of_ble_eq_true rfl)⟩ ⟨(Nat.le_of_ble_eq_true rfl), (Nat.le_of_ble_eq_true rfl)⟩ (fun r_67 S_67 q_67 z_67 => ?_)
            obtain ⟨x67, f67, ok67, v67⟩ := q_67
            rw [ew] at x67
            have v67w : vw S_67 10 = welR (vw (Gs M0) 1) (nI n) (plR (vw (Gs M0) 1)) := v67.trans (ew _)
            refine r_iload_n dX10_fewestWell_70 rfl rfl ?_
            refine r_icmp_lt (tgt := 81) dX10_fewestWell_71 (by decide) (fun c_71 => ?_) (fun c_71 => ?_)
            · (try dsimp only [Gs_M] at c_71)
              refine r_iinc (v := nI (n + 1)) dX10_fewestWell_81 rfl (nI_1 _) (by decide) ?_
              refine r_goto (tgt := 29) dX10_fewestWell_84 (by decide) ?_
              have y : fewR (vw (Gs M0) 1) v n = fewR (vw (Gs M0) 1) v (n + 1) := fewR_n rfl (fun z => Int32.not_le.mpr c_71 (x67 ▸ z.2))
              exact PW.subL (ih (n + 1) _ _ _ ok67 (hk.tr f67) (Or.inr ⟨nI n, v67w⟩) (hf.trans y) (hw.trans (fwW_k y)) (by omega) (by omega)) (by repeat' first | exact True.intro | refine And.intro rfl ?_)
            · (try dsimp only [Gs_M] at c_71)
              refine r_iload dX10_fewestWell_74 rfl ?_
              refine r_istore dX10_fewestWell_76 (by decide) ?_
              refine r_iload dX10_fewestWell_78 rfl ?_
              refine r_istore_n dX10_fewestWell_80 rfl (by decide) ?_
              refine r_iinc (v := nI (n + 1)) dX10_fewestWell_81 rfl (nI_1 _) (by decide) ?_
              refine r_goto (tgt := 29) dX10_fewestWell_84 (by decide) ?_
              have y : nI n = fewR (vw (Gs M0) 1) v (n + 1) := fewR_y ⟨⟨c_54, (fwW_lt (by omega)).mp (by rw [← hw]; omega)⟩, (by rw [← x67]; exact Int32.not_lt.mp c_71)⟩
              exact PW.subL (ih (n + 1) _ _ _ ok67 (hk.tr f67) (Or.inr ⟨nI n, v67w⟩) y (fwW_y (by omega) y) (by omega) (by omega)) (by repeat' first | exact True.intro | refine And.intro rfl ?_)
  exact PW.subL (lp (2 ^ plR (vw (Gs M0) 1) + 1) 0 _ 9 _ ok8 f8 (Or.inl v8) fewR_0.symm fwW_0.symm (by omega) (by omega)) (by repeat' first | exact True.intro | refine And.intro rfl ?_)
theorem spR_z {W : Nat → Int32} {i : Nat} : (spR W (i + 1)).2 = thrR (upd W 5 (spR W i).2) 5 := rfl
theorem spR_0 {W : Nat → Int32} : spR W 0 = (0, W 5) := rfl
set_option maxRecDepth 20000 in
set_option maxHeartbeats 1000000 in
theorem s_X10_spoiltOf (g : pG) {S : pS} (hS : sOk S) (hI : InvR (vw S 1)) (hN : InvN (vw S 1)) (n : Nat) (hn : n < 1000) : MS g mX10_spoiltOf 5 0 0 [.ref 28, .int (nI n)] (S) (eI (fun x S1 => x = (spR (vw (S) 1) n).1 ∧ fT LT (S) S1 ∧ sOk S1)) := by
  obtain ⟨M0, rfl⟩ := sOk_gs hS
  refine MS.of pn_X10 (Nat.le_of_ble_eq_true rfl) ?_
  refine r_aload_n dX10_spoiltOf_0 rfl rfl ?_
  refine r_getR (q := 10) dX10_spoiltOf_1 (ci := 10) (kf := 1) rfl (Nat.le_of_ble_eq_true rfl) (by decide) (by decide) rfl fl_X10_15 (Or.inl rfl) rfl ?_
  refine r_aload_n dX10_spoiltOf_4 rfl rfl ?_
  refine r_getR (q := 1) dX10_spoiltOf_5 (ci := 10) (kf := 0) rfl (Nat.le_of_ble_eq_true rfl) (by decide) (by decide) rfl fl_X10_9 (Or.inl rfl) rfl ?_
  refine r_callV_eV (ci := 0) dX10_spoiltOf_8 (c_X0_copyFrom g hS hI hN) mf_X0_copyFrom mi_X0_copyFrom se_X0_X0_X0_copyFrom ml_X10_28 rfl rfl (Nat.le_of_ble_eq_true rfl) rfl (by decide) rfl (Nat.le_of_ble_eq_true rfl) ⟨(Nat.le_of_ble_eq_true rfl), (Nat.le_of_ble_eq_true rfl)⟩ ⟨(Nat.le_of_ble_eq_true rfl), (Nat.le_of_ble_eq_true rfl)⟩ (fun S_8 q_8 z_8 => ?_)
  obtain ⟨f8, ok8, v8⟩ := q_8
  obtain ⟨Ma, rfl⟩ := sOk_gs ok8
  refine r_aload_n dX10_spoiltOf_11 rfl rfl ?_
  refine r_callV_eI (ci := 10) dX10_spoiltOf_12 (s_X10_showOfTried g ok8 (v8 ▸ hI) (v8 ▸ hN)) mf_X10_showOfTried mi_X10_showOfTried se_X10_X10_X10_showOfTried ml_X10_53 rfl rfl (Nat.le_of_ble_eq_true rfl) rfl (by decide) rfl (Nat.le_of_ble_eq_true rfl) ⟨(Nat.le_of_ble_eq_true rfl), (Nat.le_of_ble_eq_true rfl)⟩ ⟨(Nat.le_of_ble_eq_true rfl), (Nat.le_of_ble_eq_true rfl)⟩ (fun r_12 S_12 q_12 z_12 => ?_)
  obtain ⟨x12, f12, ok12, v12⟩ := q_12
  obtain ⟨Mb0, rfl⟩ := sOk_gs ok12
  have x12w := x12
  rw [v8] at x12w
  subst x12w
  refine r_istore_n dX10_spoiltOf_15 rfl (by decide) ?_
  refine r_iconst (v := 0) dX10_spoiltOf_16 (by decide) ?_
  refine r_istore_n dX10_spoiltOf_17 rfl (by decide) ?_
  refine r_iconst (v := 0) dX10_spoiltOf_18 (by decide) ?_
  refine r_istore dX10_spoiltOf_19 (by decide) ?_
  have lp : ∀ (j_ : Nat) (i : Nat) (c : Int32) (S1 : pS) (ok : sOk S1) (hk : fT LT (Gs M0) S1) (hv : vw S1 10 5 = (spR (vw (Gs M0) 1) i).2) (hc : c = (spR (vw (Gs M0) 1) i).1) (hi : i ≤ n), n - i < j_ → PW g mX10_spoiltOf (eN g (Gs M0).1 5 0 0 (eI (fun x S1 => x = (spR (vw (Gs M0) 1) n).1 ∧ fT LT (Gs M0) S1 ∧ sOk S1))) 21 [some (.ref 28), some (.int (nI n)), some (.int (showB (vw (Gs M0) 1))), some (.int c), some (.int (nI i)), none] [] (S1) 0 0 := by
    intro j_
    induction j_ with
    | zero => intro i c S1 ok hk hv hc hi hj; exact absurd hj (Nat.not_lt_zero _)
    | succ j_ ih =>
      intro i c S1 ok hk hv hc hi hj
      obtain ⟨M, rfl⟩ := sOk_gs ok
      refine r_iload dX10_spoiltOf_21 rfl ?_
      refine r_iload_n dX10_spoiltOf_23 rfl rfl ?_
      refine r_icmp_geN (i) (n) (tgt := 80) dX10_spoiltOf_24 (by decide) (by omega) (by omega) (fun c_24 => ?_) (fun c_24 => ?_)
      · (try dsimp only [Gs_M] at c_24)
        refine r_iload_n dX10_spoiltOf_80 rfl rfl ?_
        refine r_iret dX10_spoiltOf_81 rfl (Nat.le_refl _) ?_
        (try dsimp only [Gs_M])
        obtain rfl : i = n := by omega
        exact ⟨_, rfl, hc, hk, ok⟩
      · (try dsimp only [Gs_M] at c_24)
        refine r_aload_n dX10_spoiltOf_27 rfl rfl ?_
        refine r_getR (q := 10) dX10_spoiltOf_28 (ci := 10) (kf := 1) rfl (Nat.le_of_ble_eq_true rfl) (by decide) (by decide) rfl fl_X10_15 (Or.inl rfl) rfl ?_
        refine r_getI dX10_spoiltOf_31 (ci := 0) (kf := 9) rfl (Nat.le_of_ble_eq_true rfl) (by decide) (by decide) rfl fl_X10_56 (Or.inl rfl) ?_
        rw [show (Gs M).2.2.2 10 9 = (spR (vw (Gs M0) 1) i).2 from hv]
        refine r_istore dX10_spoiltOf_34 (by decide) ?_
        refine r_aload_n dX10_spoiltOf_36 rfl rfl ?_
        refine r_getR (q := 10) dX10_spoiltOf_37 (ci := 10) (kf := 1) rfl (Nat.le_of_ble_eq_true rfl) (by decide) (by decide) rfl fl_X10_15 (Or.inl rfl) rfl ?_
        refine r_aload_n dX10_spoiltOf_40 rfl rfl ?_
        refine r_getR (q := 1) dX10_spoiltOf_41 (ci := 10) (kf := 0) rfl (Nat.le_of_ble_eq_true rfl) (by decide) (by decide) rfl fl_X10_9 (Or.inl rfl) rfl ?_
        refine r_callV_eV (ci := 0) dX10_spoiltOf_44 (c_X0_copyFrom g ok (by rw [nowT hk]; exact hI) (by rw [nowT hk]; exact hN)) mf_X0_copyFrom mi_X0_copyFrom se_X0_X0_X0_copyFrom ml_X10_28 rfl rfl (Nat.le_of_ble_eq_true rfl) rfl (by decide) rfl (Nat.le_of_ble_eq_true rfl) ⟨(Nat.le_of_ble_eq_true rfl), (Nat.le_of_ble_eq_true rfl)⟩ ⟨(Nat.le_of_ble_eq_true rfl), (Nat.le_of_ble_eq_true rfl)⟩ (fun S_44 q_44 z_44 => ?_)
        obtain ⟨f44, ok44, v44⟩ := q_44
        obtain ⟨Ma, rfl⟩ := sOk_gs ok44
        have v44 : vw (Gs Ma) 10 = vw (Gs M0) 1 := v44.trans (nowT hk)
        refine r_aload_n dX10_spoiltOf_47 rfl rfl ?_
        refine r_getR (q := 10) dX10_spoiltOf_48 (ci := 10) (kf := 1) rfl (Nat.le_of_ble_eq_true rfl) (by decide) (by decide) rfl fl_X10_15 (Or.inl rfl) rfl ?_
        refine r_iload dX10_spoiltOf_51 rfl ?_
        refine r_putI dX10_spoiltOf_53 (ci := 0) (kf := 9) rfl (Nat.le_of_ble_eq_true rfl) (by decide) (by decide) rfl fl_X10_56 (Or.inl rfl) rfl rfl rfl ?_
        have vz : vw (mSet (Gs Ma) 10 9 (spR (vw (Gs M0) 1) i).2) 10 = upd (vw (Gs M0) 1) 5 (spR (vw (Gs M0) 1) i).2 := by rw [vs_5, v44]
        have okz : sOk (mSet (Gs Ma) 10 9 (spR (vw (Gs M0) 1) i).2) := ok44
        have hIz : InvR (vw (mSet (Gs Ma) 10 9 (spR (vw (Gs M0) 1) i).2) 10) := by rw [vz]; exact upd_inv hI (by omega) (fun k _ => by omega)
        have hNz : InvN (vw (mSet (Gs Ma) 10 9 (spR (vw (Gs M0) 1) i).2) 10) := by rw [vz]; exact hN.u5
        refine r_aload_n dX10_spoiltOf_56 rfl rfl ?_
        refine r_getR (q := 10) dX10_spoiltOf_57 (ci := 10) (kf := 1) rfl (Nat.le_of_ble_eq_true rfl) (by decide) (by decide) rfl fl_X10_15 (Or.inl rfl) rfl ?_
        refine r_callV_eV (ci := 0) dX10_spoiltOf_60 (s_X0_drawThroat g (CoG (Or.inr (Or.inl rfl))) hIz) mf_X0_drawThroat mi_X0_drawThroat se_X0_X0_X0_drawThroat ml_X10_59 rfl rfl (Nat.le_of_ble_eq_true rfl) rfl (by decide) rfl (Nat.le_of_ble_eq_true rfl) ⟨(Nat.le_of_ble_eq_true rfl), (Nat.le_of_ble_eq_true rfl)⟩ ⟨(Nat.le_of_ble_eq_true rfl), (Nat.le_of_ble_eq_true rfl)⟩ (fun S_60 q_60 z_60 => ?_)
        obtain ⟨f60, v60⟩ := q_60
        have ok60 := f60.ok okz
        obtain ⟨Mb, rfl⟩ := sOk_gs ok60
        have f60 : fT LT (mSet (Gs Ma) 10 9 (spR (vw (Gs M0) 1) i).2) (Gs Mb) := fT.of (f60.mono (by decide)) v60 (thrR_inv hIz) (thrR_N hNz hIz)
        refine r_aload_n dX10_spoiltOf_63 rfl rfl ?_
        refine r_callV_eI (ci := 10) dX10_spoiltOf_64 (s_X10_showOfTried g ok60 (v60 ▸ thrR_inv hIz) (v60 ▸ thrR_N hNz hIz)) mf_X10_showOfTried mi_X10_showOfTried se_X10_X10_X10_showOfTried ml_X10_53 rfl rfl (Nat.le_of_ble_eq_true rfl) rfl (by decide) rfl (Nat.le_of_ble_eq_true rfl) ⟨(Nat.le_of_ble_eq_true rfl), (Nat.le_of_ble_eq_true rfl)⟩ ⟨(Nat.le_of_ble_eq_true rfl), (Nat.le_of_ble_eq_true rfl)⟩ (fun r_64 S_64 q_64 z_64 => ?_)
        obtain ⟨x63, f63, ok63, v63⟩ := q_64
        have x63w := x63
        rw [v60, vz] at x63w
        refine r_iload_n dX10_spoiltOf_67 rfl rfl ?_
        refine r_icmp_ge (tgt := 74) dX10_spoiltOf_68 (by decide) (fun c_68 => ?_) (fun c_68 => ?_)
        · (try dsimp only [Gs_M] at c_68)
          refine r_iinc (v := nI (i + 1)) dX10_spoiltOf_74 rfl (nI_1 _) (by decide) ?_
          refine r_goto (tgt := 21) dX10_spoiltOf_77 (by decide) ?_
          exact PW.subL (ih (i + 1) _ _ ok63 ((show fT LT (Gs M0) (mSet (Gs Ma) 10 9 (spR (vw (Gs M0) 1) i).2) from ⟨(hk.1.tr f44.1).set (by decide), fun _ => ⟨hIz, hNz⟩⟩).tr (f60.tr f63)) (by rw [v63, v60, vz, spR_z]) ((Int32.add_zero c).symm.trans (spR_n (W := (vw (Gs M0) 1)) hc x63w c_68)) (by omega) (by omega)) (by repeat' first | exact True.intro | refine And.intro rfl ?_)
        · (try dsimp only [Gs_M] at c_68)
          refine r_iinc dX10_spoiltOf_71 rfl rfl (by decide) ?_
          refine r_iinc (v := nI (i + 1)) dX10_spoiltOf_74 rfl (nI_1 _) (by decide) ?_
          refine r_goto (tgt := 21) dX10_spoiltOf_77 (by decide) ?_
          exact PW.subL (ih (i + 1) _ _ ok63 ((show fT LT (Gs M0) (mSet (Gs Ma) 10 9 (spR (vw (Gs M0) 1) i).2) from ⟨(hk.1.tr f44.1).set (by decide), fun _ => ⟨hIz, hNz⟩⟩).tr (f60.tr f63)) (by rw [v63, v60, vz, spR_z]) (spR_y (W := (vw (Gs M0) 1)) hc x63w c_68) (by omega) (by omega)) (by repeat' first | exact True.intro | refine And.intro rfl ?_)
  exact PW.subL (lp (n + 1) 0 0 _ ok12 (f8.tr f12) (by rw [v12, v8, spR_0]) (by rw [spR_0]) (by omega) (by omega)) (by repeat' first | exact True.intro | refine And.intro rfl ?_)
