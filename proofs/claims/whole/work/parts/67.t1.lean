/-! ===== what is tried by the class ===== -/
abbrev LT : List Nat := [10, 11, 12, 13, 14, 15, 16, 17, 18]
abbrev IT (S : pS) : Prop := InvR (vw S 10) ∧ InvN (vw S 10)
/-- a frame that keeps the ranges of the company that is tried on -/
def fT (J : List Nat) (S S' : pS) : Prop := fr J S S' ∧ (IT S → IT S')
theorem fT.rf {J : List Nat} {S : pS} : fT J S S := ⟨fr.rf, id⟩
theorem fT.tr {J : List Nat} {S1 S2 S3 : pS} (h : fT J S1 S2) (h2 : fT J S2 S3) : fT J S1 S3 := ⟨h.1.tr h2.1, fun z => h2.2 (h.2 z)⟩
theorem fT.mono {J J' : List Nat} {S S' : pS} (h : fT J S S') (hj : ∀ q, q ∈ J → q ∈ J') : fT J' S S' := ⟨h.1.mono hj, h.2⟩
theorem fT.of {J : List Nat} {S S' : pS} {W : Nat → Int32} (h : fr J S S') (e : vw S' 10 = W) (hR : InvR W) (hN : InvN W) : fT J S S' := ⟨h, fun _ => by
  rw [← e] at hR hN
  exact ⟨hR, hN⟩⟩
theorem fT.out {J : List Nat} {S S' : pS} (h : fT J S S') {i k : Nat} {v : Int32} (hi : i ∈ J) (ho : ∀ c, c ≤ 6 → 10 + c ≠ i) : fT J S (mSet S' i k v) := ⟨h.1.set hi, fun z => by
  have e : vw (mSet S' i k v) 10 = vw S' 10 := vw_ne ho
  unfold IT
  rw [e]
  exact h.2 z⟩
theorem nowT {S S' : pS} (h : fT LT S S') : vw S' 1 = vw S 1 := h.1.vw (fun c hc => by simp; omega)
theorem c_X0_copyFrom (g : pG) {S : pS} (hS : sOk S) (hI : InvR (vw S 1)) (hN : InvN (vw S 1)) : MS g mX0_copyFrom 1 0 0 [.ref 10, .ref 1] S (eV (fun S1 => fT LT S S1 ∧ sOk S1 ∧ vw S1 10 = vw S 1)) := by
  obtain ⟨M, rfl⟩ := sOk_gs hS
  exact (s_X0_copyFrom g (CoG (Or.inr (Or.inl rfl))) (CoG (Or.inl rfl)) (Or.inl (by decide))).imp (fun r S' h => ⟨h.1, fT.of (h.2.1.mono (by decide)) h.2.2 hI hN, h.2.1.ok hS, h.2.2⟩)
theorem c_X0_playNight (g : pG) {S : pS} (hS : sOk S) (hI : InvR (vw S 10)) (hN : InvN (vw S 10)) : MS g mX0_playNight 4 0 0 [.ref 10] S (eI (fun x S1 => x = showB (vw S 10) ∧ fT LT S S1 ∧ sOk S1 ∧ vw S1 10 = nightC (vw S 10) ∧ (∀ x, x < 8 → S1.2.2.2 17 x = cst (vw S 10) x) ∧ ∀ x, x < plR (vw S 10) → S1.2.2.2 18 x = rol (vw S 10) x)) := by
  obtain ⟨M, rfl⟩ := sOk_gs hS
  exact (s_X0_playNight g (CoG (Or.inr (Or.inl rfl))) hI hN).imp (fun r S' h => by
    obtain ⟨x, h0, h1, h2, h3⟩ := h
    exact ⟨x, h0, h1, fT.of (h2.mono (by decide)) h3.1 (nightC_inv hI) (nightC_N hN), h2.ok hS, h3⟩)
theorem goR_s7 {W V : Nat → Int32} {i : Nat} {t : Int32} (hI : InvR W) (ht : t = goR W i 7) (hv : V = goC W i) : t + showB V = goR W (i + 1) 7 := by
  rw [goR, nightR_7, ht, hv, (goC_e hI i).sB (goR_inv hI i)]
theorem goR_pl {W : Nat → Int32} (n : Nat) : plR (goR W n) = plR W := by
  unfold plR
  congr 1
  induction n with
  | zero => rfl
  | succ n ih => rw [goR, nightR_lo (by omega) (by omega) (by omega)]; exact ih
theorem nI_ne3 {i : Nat} (h : i < 2 ^ 31) : ¬ nI i = -3 := fun z => by
  have := congrArg Int32.toInt z
  rw [nI_toInt h] at this
  have e : (-3 : Int32).toInt = -3 := rfl
  omega
set_option maxRecDepth 20000 in
set_option maxHeartbeats 1000000 in
theorem s_X10_takeFor (g : pG) {S : pS} (hS : sOk S) (hI : InvR (vw S 10)) (hN : InvN (vw S 10)) (n : Nat) (hn : n < 1000) : MS g mX10_takeFor 5 0 0 [.ref 28, .int (nI n)] (S) (eI (fun x S1 => x = goR (vw (S) 10) n 7 ∧ fT LT (S) S1 ∧ sOk S1 ∧ vw S1 10 = goC (vw (S) 10) n)) := by
  obtain ⟨M0, rfl⟩ := sOk_gs hS
  refine MS.of pn_X10 (Nat.le_of_ble_eq_true rfl) ?_
  have lp : ∀ (j_ : Nat) (i : Nat) (t : Int32) (S1 : pS) (ok : sOk S1) (hk : fT LT (Gs M0) S1) (hv : vw S1 10 = goC (vw (Gs M0) 10) i) (ht : t = goR (vw (Gs M0) 10) i 7) (hi : i ≤ n), n - i < j_ → PW g mX10_takeFor (eN g (Gs M0).1 5 0 0 (eI (fun x S1 => x = goR (vw (Gs M0) 10) n 7 ∧ fT LT (Gs M0) S1 ∧ sOk S1 ∧ vw S1 10 = goC (vw (Gs M0) 10) n))) 10 [some (.ref 28), some (.int (nI n)), some (.int t), some (.int (nI i))] [] (S1) 0 0 := by
    intro j_
    induction j_ with
    | zero => intro i t S1 ok hk hv ht hi hj; exact absurd hj (Nat.not_lt_zero _)
    | succ j_ ih =>
      intro i t S1 ok hk hv ht hi hj
      obtain ⟨M, rfl⟩ := sOk_gs ok
      have hI1 : InvR (vw (Gs M) 10) := hv ▸ goC_inv hI i
      have hN1 : InvN (vw (Gs M) 10) := hv ▸ goC_N hN i
      refine r_iload_n dX10_takeFor_10 rfl rfl ?_
      refine r_iload_n dX10_takeFor_11 rfl rfl ?_
      refine r_icmp_geN (i) (n) (tgt := 31) dX10_takeFor_12 (by decide) (by omega) (by omega) (fun c_12 => ?_) (fun c_12 => ?_)
      · (try dsimp only [Gs_M] at c_12)
        refine r_iload_n dX10_takeFor_31 rfl rfl ?_
        refine r_iret dX10_takeFor_32 rfl (Nat.le_refl _) ?_
        (try dsimp only [Gs_M])
        obtain rfl : i = n := by omega
        exact ⟨_, rfl, ht, hk, ok, hv⟩
      · (try dsimp only [Gs_M] at c_12)
        refine r_iload_n dX10_takeFor_15 rfl rfl ?_
        refine r_aload_n dX10_takeFor_16 rfl rfl ?_
        refine r_getR (q := 10) dX10_takeFor_17 (ci := 10) (kf := 1) rfl (Nat.le_of_ble_eq_true rfl) (by decide) (by decide) rfl fl_X10_15 (Or.inl rfl) rfl ?_
        refine r_callV_eI (ci := 0) dX10_takeFor_20 (c_X0_playNight g ok hI1 hN1) mf_X0_playNight mi_X0_playNight se_X0_X0_X0_playNight ml_X10_24 rfl rfl (Nat.le_of_ble_eq_true rfl) rfl (by decide) rfl (Nat.le_of_ble_eq_true rfl) ⟨(Nat.le_of_ble_eq_true rfl), (Nat.le_of_ble_eq_true rfl)⟩ ⟨(Nat.le_of_ble_eq_true rfl), (Nat.le_of_ble_eq_true rfl)⟩ (fun r_20 S_20 q_20 z_20 => ?_)
        obtain ⟨rfl, f20, ok20, v20, -, -⟩ := q_20
        refine r_iadd dX10_takeFor_23 ?_
        refine r_istore_n dX10_takeFor_24 rfl (by decide) ?_
        refine r_iinc (v := nI (i + 1)) dX10_takeFor_25 rfl (nI_1 _) (by decide) ?_
        refine r_goto (tgt := 10) dX10_takeFor_28 (by decide) ?_
        exact PW.subL (ih (i + 1) _ _ ok20 (hk.tr f20) (by rw [v20, goC, ← hv]) (goR_s7 hI ht hv) (by omega) (by omega)) (by repeat' first | exact True.intro | refine And.intro rfl ?_)
  refine r_aload_n dX10_takeFor_0 rfl rfl ?_
  refine r_getR (q := 10) dX10_takeFor_1 (ci := 10) (kf := 1) rfl (Nat.le_of_ble_eq_true rfl) (by decide) (by decide) rfl fl_X10_15 (Or.inl rfl) rfl ?_
  refine r_getI dX10_takeFor_4 (ci := 0) (kf := 8) rfl (Nat.le_of_ble_eq_true rfl) (by decide) (by decide) rfl fl_X10_18 (Or.inl rfl) ?_
  refine r_istore_n dX10_takeFor_7 rfl (by decide) ?_
  refine r_iconst (v := 0) dX10_takeFor_8 (by decide) ?_
  refine r_istore_n dX10_takeFor_9 rfl (by decide) ?_
  exact PW.subL (lp (n + 1) 0 _ (Gs M0) hS fT.rf goC_0.symm (congrFun goR_0 7).symm (by omega) (by omega)) (by repeat' first | exact True.intro | refine And.intro rfl ?_)
set_option maxRecDepth 20000 in
set_option maxHeartbeats 1000000 in
theorem s_X10_takenBehind (g : pG) {S : pS} (hS : sOk S) (hI : InvR (vw S 1)) (hN : InvN (vw S 1)) (n : Nat) (hn : n < 1000) : MS g mX10_takenBehind 6 0 0 [.ref 28, .int (nI n)] (S) (eI (fun x S1 => x = goR (vw (S) 1) n 7 ∧ fT LT (S) S1 ∧ sOk S1)) := by
  obtain ⟨M0, rfl⟩ := sOk_gs hS
  refine MS.of pn_X10 (Nat.le_of_ble_eq_true rfl) ?_
  refine r_aload_n dX10_takenBehind_0 rfl rfl ?_
  refine r_getR (q := 10) dX10_takenBehind_1 (ci := 10) (kf := 1) rfl (Nat.le_of_ble_eq_true rfl) (by decide) (by decide) rfl fl_X10_15 (Or.inl rfl) rfl ?_
  refine r_aload_n dX10_takenBehind_4 rfl rfl ?_
  refine r_getR (q := 1) dX10_takenBehind_5 (ci := 10) (kf := 0) rfl (Nat.le_of_ble_eq_true rfl) (by decide) (by decide) rfl fl_X10_9 (Or.inl rfl) rfl ?_
  refine r_callV_eV (ci := 0) dX10_takenBehind_8 (c_X0_copyFrom g hS hI hN) mf_X0_copyFrom mi_X0_copyFrom se_X0_X0_X0_copyFrom ml_X10_28 rfl rfl (Nat.le_of_ble_eq_true rfl) rfl (by decide) rfl (Nat.le_of_ble_eq_true rfl) ⟨(Nat.le_of_ble_eq_true rfl), (Nat.le_of_ble_eq_true rfl)⟩ ⟨(Nat.le_of_ble_eq_true rfl), (Nat.le_of_ble_eq_true rfl)⟩ (fun S_8 q_8 z_8 => ?_)
  obtain ⟨f8, ok8, v8⟩ := q_8
  obtain ⟨Ma, rfl⟩ := sOk_gs ok8
  refine r_aload_n dX10_takenBehind_11 rfl rfl ?_
  refine r_iload_n dX10_takenBehind_12 rfl rfl ?_
  refine r_callV_eI (ci := 10) dX10_takenBehind_13 (s_X10_takeFor g ok8 (v8 ▸ hI) (v8 ▸ hN) (n) (by omega)) mf_X10_takeFor mi_X10_takeFor se_X10_X10_X10_takeFor ml_X10_32 rfl rfl (Nat.le_of_ble_eq_true rfl) rfl (by decide) rfl (Nat.le_of_ble_eq_true rfl) ⟨(Nat.le_of_ble_eq_true rfl), (Nat.le_of_ble_eq_true rfl)⟩ ⟨(Nat.le_of_ble_eq_true rfl), (Nat.le_of_ble_eq_true rfl)⟩ (fun r_13 S_13 q_13 z_13 => ?_)
  obtain ⟨x13, f13, ok13, v13⟩ := q_13
  obtain ⟨Mb, rfl⟩ := sOk_gs ok13
  refine r_iret dX10_takenBehind_16 rfl (Nat.le_refl _) ?_
  (try dsimp only [Gs_M])
  exact ⟨_, rfl, by rw [x13, v8], f8.tr f13, ok13⟩
set_option maxRecDepth 20000 in
set_option maxHeartbeats 1000000 in
theorem s_X10_knowingBehind (g : pG) {S : pS} (hS : sOk S) (hI : InvR (vw S 1)) (hN : InvN (vw S 1)) (k p n : Nat) (hk : k < plR (vw S 1)) (hp : p < 8) (hn : n < 1000) : MS g mX10_knowingBehind 6 0 0 [.ref 28, .int (nI k), .int (nI p), .int (nI n)] (S) (eI (fun x S1 => x = goR (vw (S) 1) n (16 + 11 * k + (3 + p)) ∧ fT LT (S) S1 ∧ sOk S1)) := by
  obtain ⟨M0, rfl⟩ := sOk_gs hS
  have h8 := hI.pl.1
  refine MS.of pn_X10 (Nat.le_of_ble_eq_true rfl) ?_
  refine r_aload_n dX10_knowingBehind_0 rfl rfl ?_
  refine r_getR (q := 10) dX10_knowingBehind_1 (ci := 10) (kf := 1) rfl (Nat.le_of_ble_eq_true rfl) (by decide) (by decide) rfl fl_X10_15 (Or.inl rfl) rfl ?_
  refine r_aload_n dX10_knowingBehind_4 rfl rfl ?_
  refine r_getR (q := 1) dX10_knowingBehind_5 (ci := 10) (kf := 0) rfl (Nat.le_of_ble_eq_true rfl) (by decide) (by decide) rfl fl_X10_9 (Or.inl rfl) rfl ?_
  refine r_callV_eV (ci := 0) dX10_knowingBehind_8 (c_X0_copyFrom g hS hI hN) mf_X0_copyFrom mi_X0_copyFrom se_X0_X0_X0_copyFrom ml_X10_28 rfl rfl (Nat.le_of_ble_eq_true rfl) rfl (by decide) rfl (Nat.le_of_ble_eq_true rfl) ⟨(Nat.le_of_ble_eq_true rfl), (Nat.le_of_ble_eq_true rfl)⟩ ⟨(Nat.le_of_ble_eq_true rfl), (Nat.le_of_ble_eq_true rfl)⟩ (fun S_8 q_8 z_8 => ?_)
  obtain ⟨f8, ok8, v8⟩ := q_8
  obtain ⟨Ma, rfl⟩ := sOk_gs ok8
  refine r_aload_n dX10_knowingBehind_11 rfl rfl ?_
  refine r_iload_n dX10_knowingBehind_12 rfl rfl ?_
  refine r_callV_eI (ci := 10) dX10_knowingBehind_13 (s_X10_takeFor g ok8 (v8 ▸ hI) (v8 ▸ hN) (n) (by omega)) mf_X10_takeFor mi_X10_takeFor se_X10_X10_X10_takeFor ml_X10_32 rfl rfl (Nat.le_of_ble_eq_true rfl) rfl (by decide) rfl (Nat.le_of_ble_eq_true rfl) ⟨(Nat.le_of_ble_eq_true rfl), (Nat.le_of_ble_eq_true rfl)⟩ ⟨(Nat.le_of_ble_eq_true rfl), (Nat.le_of_ble_eq_true rfl)⟩ (fun r_13 S_13 q_13 z_13 => ?_)
  obtain ⟨x13, f13, ok13, v13⟩ := q_13
  obtain ⟨Mb, rfl⟩ := sOk_gs ok13
  refine r_pop dX10_knowingBehind_16 rfl ?_
  refine r_aload_n dX10_knowingBehind_17 rfl rfl ?_
  refine r_getR (q := 10) dX10_knowingBehind_18 (ci := 10) (kf := 1) rfl (Nat.le_of_ble_eq_true rfl) (by decide) (by decide) rfl fl_X10_15 (Or.inl rfl) rfl ?_
  refine r_iload_n dX10_knowingBehind_21 rfl rfl ?_
  refine r_iload_n dX10_knowingBehind_22 rfl rfl ?_
  refine r_callV_dI (ci := 0) dX10_knowingBehind_23 (s_X0_knowing g (CoG (Or.inr (Or.inl rfl))) (k) (p) (by omega) (by omega)) mf_X0_knowing mi_X0_knowing se_X0_X0_X0_knowing ml_X10_36 rfl rfl (Nat.le_of_ble_eq_true rfl) rfl (by decide) rfl (Nat.le_of_ble_eq_true rfl) ⟨(Nat.le_of_ble_eq_true rfl), (Nat.le_of_ble_eq_true rfl)⟩ ⟨(Nat.le_of_ble_eq_true rfl), (Nat.le_of_ble_eq_true rfl)⟩ ?_
  refine r_iret dX10_knowingBehind_26 rfl (Nat.le_refl _) ?_
  (try dsimp only [Gs_M])
  exact ⟨_, rfl, by rw [v13, v8]; exact (goC_e hI n).2 k (by rw [goR_pl]; exact hk) (3 + p) (by omega), f8.tr f13, ok13⟩
set_option maxRecDepth 20000 in
set_option maxHeartbeats 1000000 in
theorem s_X10_firstOnBill (g : pG) {S : pS} (hS : sOk S) (hI : InvR (vw S 1)) (hN : InvN (vw S 1)) (k p : Nat) (hkp : k < plR (vw S 1)) (hp : p < 8) : MS g mX10_firstOnBill 5 0 0 [.ref 28, .int (nI k), .int (nI p)] (S) (eI (fun x S1 => x = playsR (vw (S) 1) k p ∧ fT LT (S) S1 ∧ sOk S1)) := by
  obtain ⟨M0, rfl⟩ := sOk_gs hS
  have h8 := hI.pl.1
  refine MS.of pn_X10 (Nat.le_of_ble_eq_true rfl) ?_
  refine r_aload_n dX10_firstOnBill_0 rfl rfl ?_
  refine r_getR (q := 10) dX10_firstOnBill_1 (ci := 10) (kf := 1) rfl (Nat.le_of_ble_eq_true rfl) (by decide) (by decide) rfl fl_X10_15 (Or.inl rfl) rfl ?_
  refine r_aload_n dX10_firstOnBill_4 rfl rfl ?_
  refine r_getR (q := 1) dX10_firstOnBill_5 (ci := 10) (kf := 0) rfl (Nat.le_of_ble_eq_true rfl) (by decide) (by decide) rfl fl_X10_9 (Or.inl rfl) rfl ?_
  refine r_callV_eV (ci := 0) dX10_firstOnBill_8 (c_X0_copyFrom g hS hI hN) mf_X0_copyFrom mi_X0_copyFrom se_X0_X0_X0_copyFrom ml_X10_28 rfl rfl (Nat.le_of_ble_eq_true rfl) rfl (by decide) rfl (Nat.le_of_ble_eq_true rfl) ⟨(Nat.le_of_ble_eq_true rfl), (Nat.le_of_ble_eq_true rfl)⟩ ⟨(Nat.le_of_ble_eq_true rfl), (Nat.le_of_ble_eq_true rfl)⟩ (fun S_8 q_8 z_8 => ?_)
  obtain ⟨f8, ok8, v8⟩ := q_8
  obtain ⟨Ma, rfl⟩ := sOk_gs ok8
  refine r_iconst (v := 0) dX10_firstOnBill_11 (by decide) ?_
  refine r_istore_n dX10_firstOnBill_12 rfl (by decide) ?_
  have lp : ∀ (j_ : Nat) (i : Nat) (S1 : pS) (ok : sOk S1) (hk : fT LT (Gs M0) S1) (hv : vw S1 10 = goC (vw (Gs M0) 1) i) (hf : fwR (fun n => decide (rol (goR (vw (Gs M0) 1) n) k = nI p)) i = -3) (hi : i ≤ 61), 61 - i < j_ → PW g mX10_firstOnBill (eN g (Gs M0).1 5 0 0 (eI (fun x S1 => x = playsR (vw (Gs M0) 1) k p ∧ fT LT (Gs M0) S1 ∧ sOk S1))) 13 [some (.ref 28), some (.int (nI k)), some (.int (nI p)), some (.int (nI i))] [] (S1) 0 0 := by
    intro j_
    induction j_ with
    | zero => intro i S1 ok hk hv hf hi hj; exact absurd hj (Nat.not_lt_zero _)
    | succ j_ ih =>
      intro i S1 ok hk hv hf hi hj
      obtain ⟨M, rfl⟩ := sOk_gs ok
      have hI1 : InvR (vw (Gs M) 10) := hv ▸ goC_inv hI i
      have hN1 : InvN (vw (Gs M) 10) := hv ▸ goC_N hN i
      have ge := goC_e hI i
      have gi := goR_inv hI i
      have ep : plR (vw (Gs M) 10) = plR (vw (Gs M0) 1) := by rw [hv, ge.pl, goR_pl]
      refine r_iload_n dX10_firstOnBill_13 rfl rfl ?_
      refine r_bipush (v := 60) dX10_firstOnBill_14 (by decide) ?_
      refine r_icmp_gtN (i) (60) (tgt := 48) dX10_firstOnBill_16 (by decide) (by omega) (by omega) (fun c_16 => ?_) (fun c_16 => ?_)
      · (try dsimp only [Gs_M] at c_16)
        refine r_bipush (v := (-3)) dX10_firstOnBill_48 (by decide) ?_
        refine r_iret dX10_firstOnBill_50 rfl (Nat.le_refl _) ?_
        (try dsimp only [Gs_M])
        have e61 : i = 61 := by omega
        subst e61
        exact ⟨_, rfl, hf.symm, hk, ok⟩
      · (try dsimp only [Gs_M] at c_16)
        refine r_aload_n dX10_firstOnBill_19 rfl rfl ?_
        refine r_getR (q := 10) dX10_firstOnBill_20 (ci := 10) (kf := 1) rfl (Nat.le_of_ble_eq_true rfl) (by decide) (by decide) rfl fl_X10_15 (Or.inl rfl) rfl ?_
        refine r_callV_eI (ci := 0) dX10_firstOnBill_23 (c_X0_playNight g ok hI1 hN1) mf_X0_playNight mi_X0_playNight se_X0_X0_X0_playNight ml_X10_24 rfl rfl (Nat.le_of_ble_eq_true rfl) rfl (by decide) rfl (Nat.le_of_ble_eq_true rfl) ⟨(Nat.le_of_ble_eq_true rfl), (Nat.le_of_ble_eq_true rfl)⟩ ⟨(Nat.le_of_ble_eq_true rfl), (Nat.le_of_ble_eq_true rfl)⟩ (fun r_23 S_23 q_23 z_23 => ?_)
        obtain ⟨-, f23, ok23, v23, bc23, br23⟩ := q_23
        obtain ⟨Mb, rfl⟩ := sOk_gs ok23
        refine r_pop dX10_firstOnBill_26 rfl ?_
        refine r_aload_n dX10_firstOnBill_27 rfl rfl ?_
        refine r_getR (q := 10) dX10_firstOnBill_28 (ci := 10) (kf := 1) rfl (Nat.le_of_ble_eq_true rfl) (by decide) (by decide) rfl fl_X10_15 (Or.inl rfl) rfl ?_
        refine r_getR (q := (10 + 8)) dX10_firstOnBill_31 (ci := 0) (kf := 11) rfl (Nat.le_of_ble_eq_true rfl) (by decide) (by decide) rfl fl_X10_40 (Or.inl rfl) (CoG (Or.inr (Or.inl rfl))).2.2.2.2.2.2.2.2.2.2 ?_
        refine r_iload_n dX10_firstOnBill_34 rfl rfl ?_
        refine r_iald (j := k) dX10_firstOnBill_35 (CoG (Or.inr (Or.inl rfl))).2.2.1.2.2.2.2.2.2.2 (Co_la8 (CoG (Or.inr (Or.inl rfl)))) rfl (by omega) (by decide) ?_
        have er : (Gs Mb).2.2.2 (10 + 8) k = rol (goR (vw (Gs M0) 1) i) k := by rw [← ge.ro gi, ← hv]; exact br23 k (by rw [ep]; exact hkp)
        refine r_iload_n dX10_firstOnBill_36 rfl rfl ?_
        refine r_icmp_ne (tgt := 42) dX10_firstOnBill_37 (by decide) (fun c_37 => ?_) (fun c_37 => ?_)
        · (try dsimp only [Gs_M] at c_37)
          refine r_iinc (v := nI (i + 1)) dX10_firstOnBill_42 rfl (nI_1 _) (by decide) ?_
          refine r_goto (tgt := 13) dX10_firstOnBill_45 (by decide) ?_
          exact PW.subL (ih (i + 1) _ ok23 (hk.tr f23) (by rw [v23, goC, ← hv]) (fwR_n (ok := (fun n => decide (rol (goR (vw (Gs M0) 1) n) k = nI p))) hf (fun z => c_37 (er.trans (of_decide_eq_true z)))).symm (by omega) (by omega)) (by repeat' first | exact True.intro | refine And.intro rfl ?_)
        · (try dsimp only [Gs_M] at c_37)
          refine r_iload_n dX10_firstOnBill_40 rfl rfl ?_
          refine r_iret dX10_firstOnBill_41 rfl (Nat.le_refl _) ?_
          (try dsimp only [Gs_M])
          refine ⟨_, rfl, ?_, hk.tr f23, ok23⟩
          exact fwR_end (ok := (fun n => decide (rol (goR (vw (Gs M0) 1) n) k = nI p))) (fwR_y hf (decide_eq_true (er.symm.trans c_37))) (nI_ne3 (by omega)) (by omega)
  exact PW.subL (lp 62 0 _ ok8 f8 (v8.trans goC_0.symm) rfl (by omega) (by omega)) (by repeat' first | exact True.intro | refine And.intro rfl ?_)
set_option maxRecDepth 20000 in
set_option maxHeartbeats 1000000 in
theorem s_X10_firstFullHouse (g : pG) {S : pS} (hS : sOk S) (hI : InvR (vw S 1)) (hN : InvN (vw S 1)) : MS g mX10_firstFullHouse 5 0 0 [.ref 28] (S) (eI (fun x S1 => x = houseR (vw (S) 1) ∧ fT LT (S) S1 ∧ sOk S1)) := by
  obtain ⟨M0, rfl⟩ := sOk_gs hS
  refine MS.of pn_X10 (Nat.le_of_ble_eq_true rfl) ?_
  refine r_aload_n dX10_firstFullHouse_0 rfl rfl ?_
  refine r_getR (q := 10) dX10_firstFullHouse_1 (ci := 10) (kf := 1) rfl (Nat.le_of_ble_eq_true rfl) (by decide) (by decide) rfl fl_X10_15 (Or.inl rfl) rfl ?_
  refine r_aload_n dX10_firstFullHouse_4 rfl rfl ?_
  refine r_getR (q := 1) dX10_firstFullHouse_5 (ci := 10) (kf := 0) rfl (Nat.le_of_ble_eq_true rfl) (by decide) (by decide) rfl fl_X10_9 (Or.inl rfl) rfl ?_
  refine r_callV_eV (ci := 0) dX10_firstFullHouse_8 (c_X0_copyFrom g hS hI hN) mf_X0_copyFrom mi_X0_copyFrom se_X0_X0_X0_copyFrom ml_X10_28 rfl rfl (Nat.le_of_ble_eq_true rfl) rfl (by decide) rfl (Nat.le_of_ble_eq_true rfl) ⟨(Nat.le_of_ble_eq_true rfl), (Nat.le_of_ble_eq_true rfl)⟩ ⟨(Nat.le_of_ble_eq_true rfl), (Nat.le_of_ble_eq_true rfl)⟩ (fun S_8 q_8 z_8 => ?_)
  obtain ⟨f8, ok8, v8⟩ := q_8
  obtain ⟨Ma, rfl⟩ := sOk_gs ok8
  refine r_iconst (v := 0) dX10_firstFullHouse_11 (by decide) ?_
  refine r_istore_n dX10_firstFullHouse_12 rfl (by decide) ?_
  have lp : ∀ (j_ : Nat) (i : Nat) (S1 : pS) (ok : sOk S1) (hk : fT LT (Gs M0) S1) (hv : vw S1 10 = goC (vw (Gs M0) 1) i) (hf : fwR (fun n => decide (cutR (cst (goR (vw (Gs M0) 1) n)) 8 = 0)) i = -3) (hi : i ≤ 61), 61 - i < j_ → PW g mX10_firstFullHouse (eN g (Gs M0).1 5 0 0 (eI (fun x S1 => x = houseR (vw (Gs M0) 1) ∧ fT LT (Gs M0) S1 ∧ sOk S1))) 13 [some (.ref 28), some (.int (nI i))] [] (S1) 0 0 := by
    intro j_
    induction j_ with
    | zero => intro i S1 ok hk hv hf hi hj; exact absurd hj (Nat.not_lt_zero _)
    | succ j_ ih =>
      intro i S1 ok hk hv hf hi hj
      obtain ⟨M, rfl⟩ := sOk_gs ok
      have hI1 : InvR (vw (Gs M) 10) := hv ▸ goC_inv hI i
      have hN1 : InvN (vw (Gs M) 10) := hv ▸ goC_N hN i
      have ge := goC_e hI i
      have gi := goR_inv hI i
      refine r_iload_n dX10_firstFullHouse_13 rfl rfl ?_
      refine r_bipush (v := 60) dX10_firstFullHouse_14 (by decide) ?_
      refine r_icmp_gtN (i) (60) (tgt := 45) dX10_firstFullHouse_16 (by decide) (by omega) (by omega) (fun c_16 => ?_) (fun c_16 => ?_)
      · (try dsimp only [Gs_M] at c_16)
        refine r_bipush (v := (-3)) dX10_firstFullHouse_45 (by decide) ?_
        refine r_iret dX10_firstFullHouse_47 rfl (Nat.le_refl _) ?_
        (try dsimp only [Gs_M])
        have e61 : i = 61 := by omega
        subst e61
        exact ⟨_, rfl, hf.symm, hk, ok⟩
      · (try dsimp only [Gs_M] at c_16)
        refine r_aload_n dX10_firstFullHouse_19 rfl rfl ?_
        refine r_getR (q := 10) dX10_firstFullHouse_20 (ci := 10) (kf := 1) rfl (Nat.le_of_ble_eq_true rfl) (by decide) (by decide) rfl fl_X10_15 (Or.inl rfl) rfl ?_
        refine r_callV_eI (ci := 0) dX10_firstFullHouse_23 (c_X0_playNight g ok hI1 hN1) mf_X0_playNight mi_X0_playNight se_X0_X0_X0_playNight ml_X10_24 rfl rfl (Nat.le_of_ble_eq_true rfl) rfl (by decide) rfl (Nat.le_of_ble_eq_true rfl) ⟨(Nat.le_of_ble_eq_true rfl), (Nat.le_of_ble_eq_true rfl)⟩ ⟨(Nat.le_of_ble_eq_true rfl), (Nat.le_of_ble_eq_true rfl)⟩ (fun r_23 S_23 q_23 z_23 => ?_)
        obtain ⟨-, f23, ok23, v23, bc23, br23⟩ := q_23
        obtain ⟨Mb, rfl⟩ := sOk_gs ok23
        refine r_pop dX10_firstFullHouse_26 rfl ?_
        refine r_aload_n dX10_firstFullHouse_27 rfl rfl ?_
        refine r_getR (q := 10) dX10_firstFullHouse_28 (ci := 10) (kf := 1) rfl (Nat.le_of_ble_eq_true rfl) (by decide) (by decide) rfl fl_X10_15 (Or.inl rfl) rfl ?_
        refine r_callV_dI (ci := 0) dX10_firstFullHouse_31 (s_X0_cutParts g (CoG (Or.inr (Or.inl rfl))) (fun x hx => by have := bc23 x hx; rw [show (Gs Mb).2.2.2 (10 + 7) x = _ from this]; exact cst_ok hI1 x hx)) mf_X0_cutParts mi_X0_cutParts se_X0_X0_X0_cutParts ml_X10_44 rfl rfl (Nat.le_of_ble_eq_true rfl) rfl (by decide) rfl (Nat.le_of_ble_eq_true rfl) ⟨(Nat.le_of_ble_eq_true rfl), (Nat.le_of_ble_eq_true rfl)⟩ ⟨(Nat.le_of_ble_eq_true rfl), (Nat.le_of_ble_eq_true rfl)⟩ ?_
        have ec : cutR ((Gs Mb).2.2.2 (10 + 7)) 8 = cutR (cst (goR (vw (Gs M0) 1) i)) 8 := by rw [← ge.cs gi, ← hv]; exact cutR_cong bc23 8 (Nat.le_refl _)
        refine r_if_ne (tgt := 39) dX10_firstFullHouse_34 (by decide) (fun c_34 => ?_) (fun c_34 => ?_)
        · (try dsimp only [Gs_M] at c_34)
          refine r_iinc (v := nI (i + 1)) dX10_firstFullHouse_39 rfl (nI_1 _) (by decide) ?_
          refine r_goto (tgt := 13) dX10_firstFullHouse_42 (by decide) ?_
          exact PW.subL (ih (i + 1) _ ok23 (hk.tr f23) (by rw [v23, goC, ← hv]) (fwR_n (ok := (fun n => decide (cutR (cst (goR (vw (Gs M0) 1) n)) 8 = 0))) hf (fun z => c_34 (ec.trans (of_decide_eq_true z)))).symm (by omega) (by omega)) (by repeat' first | exact True.intro | refine And.intro rfl ?_)
        · (try dsimp only [Gs_M] at c_34)
          refine r_iload_n dX10_firstFullHouse_37 rfl rfl ?_
          refine r_iret dX10_firstFullHouse_38 rfl (Nat.le_refl _) ?_
          (try dsimp only [Gs_M])
          refine ⟨_, rfl, ?_, hk.tr f23, ok23⟩
          exact fwR_end (ok := (fun n => decide (cutR (cst (goR (vw (Gs M0) 1) n)) 8 = 0))) (fwR_y hf (decide_eq_true (ec.symm.trans c_34))) (nI_ne3 (by omega)) (by omega)
  exact PW.subL (lp 62 0 _ ok8 f8 (v8.trans goC_0.symm) rfl (by omega) (by omega)) (by repeat' first | exact True.intro | refine And.intro rfl ?_)
