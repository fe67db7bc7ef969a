def fitR (W it : Nat → Int32) : Nat → Bool × (Nat → Int32)
  | 0 => (true, W)
  | i + 1 => if (fitR W it i).1 = true then (decide (it i = -1 ∨ it i = showB (fitR W it i).2), nightR (fitR W it i).2) else fitR W it i
theorem fitR_inv {W it : Nat → Int32} (h : InvR W) : ∀ i, InvR (fitR W it i).2
  | 0 => h
  | i + 1 => by rw [fitR]; split; exact nightR_inv (fitR_inv h i); exact fitR_inv h i
theorem fitR_hi {W it : Nat → Int32} (h : InvR W) {x : Nat} (hx : 104 ≤ x) : ∀ i, (fitR W it i).2 x = W x
  | 0 => rfl
  | i + 1 => by
    rw [fitR]; split
    · exact (nightR_hi (fitR_inv h i) hx).trans (fitR_hi h hx i)
    · exact fitR_hi h hx i
theorem fitR_s1 {W it : Nat → Int32} {i : Nat} (h : (fitR W it i).1 = true) : (fitR W it (i + 1)).1 = decide (it i = -1 ∨ it i = showB (fitR W it i).2) := by rw [fitR, if_pos h]
theorem fitR_s2 {W it : Nat → Int32} {i : Nat} (h : (fitR W it i).1 = true) : (fitR W it (i + 1)).2 = nightR (fitR W it i).2 := by rw [fitR, if_pos h]
theorem fitR_stop {W it : Nat → Int32} {i : Nat} (h : ¬ (fitR W it i).1 = true) : ∀ m, (fitR W it (i + m)).1 = (fitR W it i).1
  | 0 => rfl
  | m + 1 => by
    have e := fitR_stop h m
    rw [← Nat.add_assoc, fitR, if_neg (e ▸ h)]
    exact e
theorem fitR_end {W it : Nat → Int32} {i n : Nat} (h : ¬ (fitR W it i).1 = true) (hn : i ≤ n) : (fitR W it i).1 = (fitR W it n).1 := by
  have e := fitR_stop h (n - i)
  rw [Nat.add_sub_cancel' hn] at e
  exact e.symm
def ownV (W : Nat → Int32) (k : Nat) (v : Int32) : Nat → Int32 := upd W (16 + 11 * k + (3 + owR W k)) v
theorem owR_v {W : Nat → Int32} (h : InvR W) {k : Nat} (hk : k < 8) : W (16 + 11 * k + 1) = nI (owR W k) := by
  obtain ⟨o, ho, e⟩ := h.2 k hk
  rw [owR_e ho e]; exact e
theorem ownV_inv {W : Nat → Int32} (h : InvR W) {k : Nat} (hk : k < 8) {v : Int32} : InvR (ownV W k v) := upd_inv h (by omega) (fun k2 h2 => by have := h.own k hk; omega)
theorem ownV_hi {W : Nat → Int32} (h : InvR W) {k : Nat} (hk : k < 8) {v : Int32} {x : Nat} (hx : 104 ≤ x) : ownV W k v x = W x := upd_hi hx (by have := h.own k hk; omega)
def fitB (W : Nat → Int32) (k : Nat) (it : Nat → Int32) (n : Nat) (v : Nat) : Bool := (fitR (ownV W k (nI v)) it n).1
set_option maxRecDepth 20000 in
set_option maxHeartbeats 1000000 in
theorem s_X12_fitsWith (g : pG) {S : pS} (hS : sOk S) (hI : InvR (S.2.2.2 55)) {W L : Nat → Int32} (hl : S.2.2.2 57 = ovr W L) (hw : ∀ x, 104 ≤ x → S.2.2.2 55 x = W x) (a k v n : Nat) (ha : a < 4) (hk8 : k < 8) (hn : n ≤ 40) (hsz : S.2.2.2 66 a = nI n) : MS g mX12_fitsWith 7 0 0 [.ref 54, .int (nI a), .int (nI k), .int (nI v)] (S) (eI (fun rx S1 => rx = bI (fitB ((S).2.2.2 55) k (fun i => (S).2.2.2 67 (40 * a + i)) n v = true) ∧ kp [55, 59, 60] (S) S1 ∧ S1.2.2.2 55 = W)) := by
  obtain ⟨M0, rfl⟩ := sOk_gs hS
  have hI : InvR (M0 55) := hI
  have how := hI.own k hk8
  refine MS.of pn_X12 (Nat.le_of_ble_eq_true rfl) ?_
  refine r_aload_n dX12_fitsWith_0 rfl rfl ?_
  refine r_iload_n dX12_fitsWith_1 rfl rfl ?_
  refine r_iconst (v := 3) dX12_fitsWith_2 (by decide) ?_
  refine r_aload_n dX12_fitsWith_3 rfl rfl ?_
  refine r_iload_n dX12_fitsWith_4 rfl rfl ?_
  refine r_iconst (v := 1) dX12_fitsWith_5 (by decide) ?_
  refine r_callV_dI (ci := 12) dX12_fitsWith_6 (s_X12_get g (by exact ⟨rfl, rfl, rfl⟩) (k) (1) (by omega) (by omega)) mf_X12_get mi_X12_get se_X12_X12_X12_get ml_X12_67 rfl rfl (Nat.le_of_ble_eq_true rfl) rfl (by decide) rfl (Nat.le_of_ble_eq_true rfl) ⟨(Nat.le_of_ble_eq_true rfl), (Nat.le_of_ble_eq_true rfl)⟩ ⟨(Nat.le_of_ble_eq_true rfl), (Nat.le_of_ble_eq_true rfl)⟩ ?_
  rw [show (Gs M0).2.2.2 55 (16 + 11 * k + 1) = nI (owR (M0 55) k) from owR_v hI hk8]
  refine r_iaddN (3) (owR (M0 55) k) dX12_fitsWith_9 ?_
  refine r_iload_n dX12_fitsWith_10 rfl rfl ?_
  refine r_callV_dV (ci := 12) dX12_fitsWith_11 (s_X12_puts g (by exact ⟨rfl, rfl, rfl⟩) (k) ((3 + owR (M0 55) k)) (by omega) (by omega) _) mf_X12_puts mi_X12_puts se_X12_X12_X12_puts ml_X12_88 rfl rfl (Nat.le_of_ble_eq_true rfl) rfl (by decide) rfl (Nat.le_of_ble_eq_true rfl) ⟨(Nat.le_of_ble_eq_true rfl), (Nat.le_of_ble_eq_true rfl)⟩ ⟨(Nat.le_of_ble_eq_true rfl), (Nat.le_of_ble_eq_true rfl)⟩ ?_
  refine r_iconst (v := 1) dX12_fitsWith_14 (by decide) ?_
  refine r_istore dX12_fitsWith_15 (by decide) ?_
  refine r_iconst (v := 0) dX12_fitsWith_17 (by decide) ?_
  refine r_istore dX12_fitsWith_18 (by decide) ?_
  have lp : ∀ (j_ : Nat) (i : Nat) (ok : Int32) (S1 : pS) (hk : kp [55, 59, 60] (Gs M0) S1) (h55 : S1.2.2.2 55 = (fitR (ownV (M0 55) k (nI v)) (fun i => M0 67 (40 * a + i)) i).2) (hb : ok = bI ((fitR (ownV (M0 55) k (nI v)) (fun i => M0 67 (40 * a + i)) i).1 = true)) (hin : i ≤ n), n - i < j_ → PW g mX12_fitsWith (eN g (Gs M0).1 7 0 0 (eI (fun rx S1 => rx = bI (fitB ((Gs M0).2.2.2 55) k (fun i => (Gs M0).2.2.2 67 (40 * a + i)) n v = true) ∧ kp [55, 59, 60] (Gs M0) S1 ∧ S1.2.2.2 55 = W))) 20 [some (.ref 54), some (.int (nI a)), some (.int (nI k)), some (.int (nI v)), some (.int ok), some (.int (nI i)), none, none] [] (S1) 0 0 := by
    intro j_
    induction j_ with
    | zero => intro i ok S1 hk h55 hb hin hj; exact absurd hj (Nat.not_lt_zero _)
    | succ j_ ih =>
      intro i ok S1 hk h55 hb hin hj
      subst hb
      obtain ⟨M, rfl⟩ := sOk_gs hk.1
      have b55 : M 55 = (fitR (ownV (M0 55) k (nI v)) (fun i => M0 67 (40 * a + i)) i).2 := h55
      have b66 : M 66 a = nI n := (congrFun (hk.2.1 66 (by decide) (by decide)) a).trans hsz
      have b67 : M 67 = M0 67 := hk.2.1 67 (by decide) (by decide)
      have hIb : InvR (M 55) := b55 ▸ fitR_inv (ownV_inv hI hk8) i
      refine r_iload dX12_fitsWith_20 rfl ?_
      refine r_aload_n dX12_fitsWith_22 rfl rfl ?_
      refine r_getR (q := 66) dX12_fitsWith_23 (ci := 12) (kf := 19) rfl (Nat.le_of_ble_eq_true rfl) (by decide) (by decide) rfl fl_X12_44 (Or.inl rfl) rfl ?_
      refine r_iload_n dX12_fitsWith_26 rfl rfl ?_
      refine r_iald (j := a) dX12_fitsWith_27 rfl (Nat.le_of_ble_eq_true rfl) rfl (by omega) (by decide) ?_
      rw [show (Gs M).2.2.2 66 a = nI n from b66]
      refine r_icmp_geN (i) (n) (tgt := 82) dX12_fitsWith_28 (by decide) (by omega) (by omega) (fun c_28 => ?_) (fun c_28 => ?_)
      · (try dsimp only [Gs_M] at c_28)
        refine r_aload_n dX12_fitsWith_82 rfl rfl ?_
        refine r_getR (q := 57) dX12_fitsWith_83 (ci := 12) (kf := 2) rfl (Nat.le_of_ble_eq_true rfl) (by decide) (by decide) rfl fl_X12_16 (Or.inl rfl) rfl ?_
        refine r_aload_n dX12_fitsWith_86 rfl rfl ?_
        refine r_getR (q := 55) dX12_fitsWith_87 (ci := 12) (kf := 0) rfl (Nat.le_of_ble_eq_true rfl) (by decide) (by decide) rfl fl_X12_9 (Or.inl rfl) rfl ?_
        refine r_callS_eV dX12_fitsWith_90 (c_X12_copies3 g hl hk (fun x hx => by show M 55 x = W x; rw [b55, fitR_hi (ownV_inv hI hk8) hx, ownV_hi hI hk8 hx]; exact hw x hx)) mf_X12_copies mt_X12_copies ml_X12_169 rfl rfl (Nat.le_of_ble_eq_true rfl) ⟨(Nat.le_of_ble_eq_true rfl), (Nat.le_of_ble_eq_true rfl)⟩ ⟨(Nat.le_of_ble_eq_true rfl), (Nat.le_of_ble_eq_true rfl)⟩ (fun S_90 q_90 z_90 => ?_)
        refine r_iload dX12_fitsWith_93 rfl ?_
        refine r_zret dX12_fitsWith_95 rfl bI_z (Nat.le_refl _) ?_
        (try dsimp only [Gs_M])
        refine ⟨_, rfl, ?_, q_90⟩
        rw [show i = n by omega]
        rfl
      · (try dsimp only [Gs_M] at c_28)
        refine r_iload dX12_fitsWith_31 rfl ?_
        refine r_if_eq (tgt := 82) dX12_fitsWith_33 (by decide) (fun c_33 => ?_) (fun c_33 => ?_)
        · have c_33 := bI_0 c_33
          (try dsimp only [Gs_M] at c_33)
          refine r_aload_n dX12_fitsWith_82 rfl rfl ?_
          refine r_getR (q := 57) dX12_fitsWith_83 (ci := 12) (kf := 2) rfl (Nat.le_of_ble_eq_true rfl) (by decide) (by decide) rfl fl_X12_16 (Or.inl rfl) rfl ?_
          refine r_aload_n dX12_fitsWith_86 rfl rfl ?_
          refine r_getR (q := 55) dX12_fitsWith_87 (ci := 12) (kf := 0) rfl (Nat.le_of_ble_eq_true rfl) (by decide) (by decide) rfl fl_X12_9 (Or.inl rfl) rfl ?_
          refine r_callS_eV dX12_fitsWith_90 (c_X12_copies3 g hl hk (fun x hx => by show M 55 x = W x; rw [b55, fitR_hi (ownV_inv hI hk8) hx, ownV_hi hI hk8 hx]; exact hw x hx)) mf_X12_copies mt_X12_copies ml_X12_169 rfl rfl (Nat.le_of_ble_eq_true rfl) ⟨(Nat.le_of_ble_eq_true rfl), (Nat.le_of_ble_eq_true rfl)⟩ ⟨(Nat.le_of_ble_eq_true rfl), (Nat.le_of_ble_eq_true rfl)⟩ (fun S_90 q_90 z_90 => ?_)
          refine r_iload dX12_fitsWith_93 rfl ?_
          refine r_zret dX12_fitsWith_95 rfl bI_z (Nat.le_refl _) ?_
          (try dsimp only [Gs_M])
          refine ⟨_, rfl, ?_, q_90⟩
          rw [fitR_end c_33 hin]
          rfl
        · have c_33 := bI_n c_33
          (try dsimp only [Gs_M] at c_33)
          refine r_aload_n dX12_fitsWith_36 rfl rfl ?_
          refine r_getR (q := 67) dX12_fitsWith_37 (ci := 12) (kf := 20) rfl (Nat.le_of_ble_eq_true rfl) (by decide) (by decide) rfl fl_X12_47 (Or.inl rfl) rfl ?_
          refine r_bipush (v := 40) dX12_fitsWith_40 (by decide) ?_
          refine r_iload_n dX12_fitsWith_42 rfl rfl ?_
          refine r_imulN (40) (a) dX12_fitsWith_43 ?_
          refine r_iload dX12_fitsWith_44 rfl ?_
          refine r_iaddN ((40 * a)) (i) dX12_fitsWith_46 ?_
          refine r_iald (j := ((40 * a) + i)) dX12_fitsWith_47 rfl (Nat.le_of_ble_eq_true rfl) rfl (by omega) (by decide) ?_
          refine r_istore dX12_fitsWith_48 (by decide) ?_
          refine r_aload_n dX12_fitsWith_50 rfl rfl ?_
          refine r_callV_eI (ci := 12) dX12_fitsWith_51 (s_X12_night1 g hk.1 hIb) mf_X12_night1 mi_X12_night1 se_X12_X12_X12_night1 ml_X12_110 rfl rfl (Nat.le_of_ble_eq_true rfl) rfl (by decide) rfl (Nat.le_of_ble_eq_true rfl) ⟨(Nat.le_of_ble_eq_true rfl), (Nat.le_of_ble_eq_true rfl)⟩ ⟨(Nat.le_of_ble_eq_true rfl), (Nat.le_of_ble_eq_true rfl)⟩ (fun r_51 S_51 q_51 z_51 => ?_)
          obtain ⟨hx51, kz, v51⟩ := q_51
          rw [show (Gs M).2.2.2 55 = _ from b55] at hx51 v51
          refine r_istore dX12_fitsWith_54 (by decide) ?_
          refine r_iload dX12_fitsWith_56 rfl ?_
          refine r_iconst (v := (-1)) dX12_fitsWith_58 (by decide) ?_
          refine r_icmp_eq (tgt := 69) dX12_fitsWith_59 (by decide) (fun c_59 => ?_) (fun c_59 => ?_)
          · (try dsimp only [Gs_M] at c_59)
            refine r_iconst (v := 1) dX12_fitsWith_69 (by decide) ?_
            refine r_goto (tgt := 74) dX12_fitsWith_70 (by decide) ?_
            refine r_istore dX12_fitsWith_74 (by decide) ?_
            refine r_iinc (v := nI (i + 1)) dX12_fitsWith_76 rfl (nI_1 _) (by decide) ?_
            refine r_goto (tgt := 20) dX12_fitsWith_79 (by decide) ?_
            exact PW.subL (ih (i + 1) _ _ (hk.tr kz) (v51.trans (fitR_s2 c_33).symm) (by rw [fitR_s1 c_33, bI_t (decide_eq_true (Or.inl (by rw [b67] at c_59; exact c_59)))]) (by omega)  (by omega)) (by repeat' first | exact True.intro | refine And.intro rfl ?_)
          · (try dsimp only [Gs_M] at c_59)
            refine r_iload dX12_fitsWith_62 rfl ?_
            refine r_iload dX12_fitsWith_64 rfl ?_
            refine r_icmp_ne (tgt := 73) dX12_fitsWith_66 (by decide) (fun c_66 => ?_) (fun c_66 => ?_)
            · (try dsimp only [Gs_M] at c_66)
              refine r_iconst (v := 0) dX12_fitsWith_73 (by decide) ?_
              refine r_istore dX12_fitsWith_74 (by decide) ?_
              refine r_iinc (v := nI (i + 1)) dX12_fitsWith_76 rfl (nI_1 _) (by decide) ?_
              refine r_goto (tgt := 20) dX12_fitsWith_79 (by decide) ?_
              exact PW.subL (ih (i + 1) _ _ (hk.tr kz) (v51.trans (fitR_s2 c_33).symm) (by rw [fitR_s1 c_33, bI_f (fun z => (of_decide_eq_true z).elim (fun y => c_59 (by rw [b67]; exact y)) (fun y => c_66 (by rw [b67, hx51]; exact y)))]) (by omega)  (by omega)) (by repeat' first | exact True.intro | refine And.intro rfl ?_)
            · (try dsimp only [Gs_M] at c_66)
              refine r_iconst (v := 1) dX12_fitsWith_69 (by decide) ?_
              refine r_goto (tgt := 74) dX12_fitsWith_70 (by decide) ?_
              refine r_istore dX12_fitsWith_74 (by decide) ?_
              refine r_iinc (v := nI (i + 1)) dX12_fitsWith_76 rfl (nI_1 _) (by decide) ?_
              refine r_goto (tgt := 20) dX12_fitsWith_79 (by decide) ?_
              exact PW.subL (ih (i + 1) _ _ (hk.tr kz) (v51.trans (fitR_s2 c_33).symm) (by rw [fitR_s1 c_33, bI_t (decide_eq_true (Or.inr (by rw [b67, hx51] at c_66; exact c_66)))]) (by omega)  (by omega)) (by repeat' first | exact True.intro | refine And.intro rfl ?_)
  exact PW.subL (lp (n + 1) 0 _ _ ((kp.rf hS).set (by decide) (by decide)) mSet_at (bI_t rfl).symm (by omega) (by omega)) (by repeat' first | exact True.intro | refine And.intro rfl ?_)
