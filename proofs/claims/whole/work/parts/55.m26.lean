def rdF (L b : Nat → Int32) (n : Nat) (R : Nat → Int32) (P : pT) : Bool × (Nat → Int32) × pT := if 0 ≤ P.2.2.1 ∧ P.2.2.1 ≤ 5 then plF L b n P.2.2.1 R P else if P.2.2.1 = 6 then wgF L b n R P else if 7 ≤ P.2.2.1 ∧ P.2.2.1 ≤ 10 then lwF L b n (cl (P.2.2.1 - 7 + 1)) R P else (false, R, P)
theorem rdF_le {L b : Nat → Int32} {n : Nat} {R : Nat → Int32} {P : pT} (h : P.1 ≤ n) : (rdF L b n R P).2.2.1 ≤ n := by
  unfold rdF
  split
  · exact plF_le h
  · split
    · exact wgF_le h
    · split
      · exact lwF_le h
      · exact h
def oneF (L b : Nat → Int32) (n : Nat) (R : Nat → Int32) (P : pT) : Bool × (Nat → Int32) × pT := if (rdF L b n R P).1 = true then (decide ((rdF L b n R P).2.2.2.2.1 = 259), (rdF L b n R P).2.1, tkP L b n (rdF L b n R P).2.2 259) else (false, (rdF L b n R P).2.1, (rdF L b n R P).2.2)
theorem oneF_0 {L b : Nat → Int32} {n : Nat} {R : Nat → Int32} {P : pT} {r : Bool × (Nat → Int32) × pT} (e : rdF L b n R P = r) (h : ¬ r.1 = true) : oneF L b n R P = (false, r.2.1, r.2.2) := by unfold oneF; rw [e, if_neg h]
theorem oneF_n {L b : Nat → Int32} {n : Nat} {R : Nat → Int32} {P : pT} {r : Bool × (Nat → Int32) × pT} (e : rdF L b n R P = r) (h : r.1 = true) (h2 : ¬ r.2.2.2.2.1 = 259) : oneF L b n R P = (false, r.2.1, tkP L b n r.2.2 259) := by unfold oneF; rw [e, if_pos h, decide_eq_false h2]
theorem oneF_y {L b : Nat → Int32} {n : Nat} {R : Nat → Int32} {P : pT} {r : Bool × (Nat → Int32) × pT} (e : rdF L b n R P = r) (h : r.1 = true) (h2 : r.2.2.2.2.1 = 259) : oneF L b n R P = (true, r.2.1, tkP L b n r.2.2 259) := by unfold oneF; rw [e, if_pos h, decide_eq_true h2]
theorem oneF_le {L b : Nat → Int32} {n : Nat} {R : Nat → Int32} {P : pT} (h : P.1 ≤ n) : (oneF L b n R P).2.2.1 ≤ n := by
  unfold oneF
  split
  · exact tkP_le (rdF_le h)
  · exact rdF_le h
theorem lawTok {t : Int32} (h : 7 ≤ t ∧ t ≤ 10) : ∃ w, 1 ≤ w ∧ w ≤ 4 ∧ t - 7 + 1 = nI w := by
  obtain ⟨j, hj, e⟩ := rng (x := t) (hi := 10) 10 (by decide) ⟨Int32.le_trans (by decide) h.1, h.2⟩
  subst e
  have h7 : 7 ≤ j := by
    have h1 := Int32.le_iff_toInt_le.mp h.1
    rw [nI_toInt (by omega)] at h1
    have : (7 : Int32).toInt = 7 := rfl
    omega
  refine ⟨j - 7 + 1, by omega, by omega, ?_⟩
  rw [show (7 : Int32) = nI 7 from rfl, pk_sub h7, show (1 : Int32) = nI 1 from rfl, nI_add]
theorem rd_0 {L b : Nat → Int32} {n : Nat} {R : Nat → Int32} {P : pT} (h : 0 ≤ P.2.2.1 ∧ P.2.2.1 ≤ 5) : rdF L b n R P = plF L b n P.2.2.1 R P := by unfold rdF; rw [if_pos h]
theorem rd_1 {L b : Nat → Int32} {n : Nat} {R : Nat → Int32} {P : pT} (h0 : ¬ (0 ≤ P.2.2.1 ∧ P.2.2.1 ≤ 5)) (h : P.2.2.1 = 6) : rdF L b n R P = wgF L b n R P := by unfold rdF; rw [if_neg h0, if_pos h]
theorem rd_2 {L b : Nat → Int32} {n w : Nat} {R : Nat → Int32} {P : pT} (h0 : ¬ (0 ≤ P.2.2.1 ∧ P.2.2.1 ≤ 5)) (h1 : ¬ P.2.2.1 = 6) (h : 7 ≤ P.2.2.1 ∧ P.2.2.1 ≤ 10) (e : P.2.2.1 - 7 + 1 = nI w) (hw : w ≤ 4) : rdF L b n R P = lwF L b n w R P := by unfold rdF; rw [if_neg h0, if_neg h1, if_pos h, e, cl_nI (by omega)]
theorem rd_3 {L b : Nat → Int32} {n : Nat} {R : Nat → Int32} {P : pT} (h0 : ¬ (0 ≤ P.2.2.1 ∧ P.2.2.1 ≤ 5)) (h1 : ¬ P.2.2.1 = 6) (h : ¬ (7 ≤ P.2.2.1 ∧ P.2.2.1 ≤ 10)) : rdF L b n R P = (false, R, P) := by unfold rdF; rw [if_neg h0, if_neg h1, if_neg h]
set_option maxRecDepth 20000 in
set_option maxHeartbeats 1000000 in
theorem s_X12_readsOne (g : pG) {M : Nat → Nat → Int32} {R : Nat → Int32} {n : Nat} (hn : n ≤ 200) (en : M 54 9 = nI n) {P : pT} (he : P.1 ≤ n) {p : Nat} (hp8 : p ≤ 8) (er : R 6 = nI p) : MS g mX12_readsOne 7 0 0 [.ref 54] (Gs (tpP M R P)) (dI (bI ((oneF (M 62) (M 61) n R P).1 = true)) (Gs (tpP M (oneF (M 62) (M 61) n R P).2.1 (oneF (M 62) (M 61) n R P).2.2))) := by
  refine MS.of pn_X12 (Nat.le_of_ble_eq_true rfl) ?_
  have J : ∀ (r : Bool × (Nat → Int32) × pT), rdF (M 62) (M 61) n R P = r → r.2.2.1 ≤ n → PW g mX12_readsOne (eN g (Gs (tpP M R P)).1 7 0 0 (dI (bI ((oneF (M 62) (M 61) n R P).1 = true)) (Gs (tpP M (oneF (M 62) (M 61) n R P).2.1 (oneF (M 62) (M 61) n R P).2.2)))) 71 [some (.ref 54), some (.int (bI (r.1 = true)))] [] (Gs (tpP M r.2.1 r.2.2)) 0 0 := by
    intro r er2 hr
    refine r_iload_n dX12_readsOne_71 rfl rfl ?_
    refine r_if_eq (tgt := 89) dX12_readsOne_72 (by decide) (fun c_72 => ?_) (fun c_72 => ?_)
    · have c_72 := bI_0 c_72
      (try dsimp only [Gs_M] at c_72)
      refine r_iconst (v := 0) dX12_readsOne_89 (by decide) ?_
      refine r_zret dX12_readsOne_90 rfl rfl (Nat.le_refl _) ?_
      (try dsimp only [Gs_M])
      exact dT (oneF_0 er2 c_72) (bI_f (by decide)).symm
    · have c_72 := bI_n c_72
      (try dsimp only [Gs_M] at c_72)
      refine r_aload_n dX12_readsOne_75 rfl rfl ?_
      refine r_sipush (v := 259) dX12_readsOne_76 (by decide) ?_
      refine r_callV_dI (ci := 12) dX12_readsOne_79 (s_X12_takes g hn en hr _) mf_X12_takes mi_X12_takes se_X12_X12_X12_takes ml_X12_148 rfl rfl (Nat.le_of_ble_eq_true rfl) rfl (by decide) rfl (Nat.le_of_ble_eq_true rfl) ⟨(Nat.le_of_ble_eq_true rfl), (Nat.le_of_ble_eq_true rfl)⟩ ⟨(Nat.le_of_ble_eq_true rfl), (Nat.le_of_ble_eq_true rfl)⟩ ?_
      refine r_if_eq (tgt := 89) dX12_readsOne_82 (by decide) (fun c_82 => ?_) (fun c_82 => ?_)
      · have c_82 := bI_0 c_82
        (try dsimp only [Gs_M] at c_82)
        refine r_iconst (v := 0) dX12_readsOne_89 (by decide) ?_
        refine r_zret dX12_readsOne_90 rfl rfl (Nat.le_refl _) ?_
        (try dsimp only [Gs_M])
        exact dT (oneF_n er2 c_72 c_82) (bI_f (by decide)).symm
      · have c_82 := bI_n c_82
        (try dsimp only [Gs_M] at c_82)
        refine r_iconst (v := 1) dX12_readsOne_85 (by decide) ?_
        refine r_goto (tgt := 90) dX12_readsOne_86 (by decide) ?_
        refine r_zret dX12_readsOne_90 rfl rfl (Nat.le_refl _) ?_
        (try dsimp only [Gs_M])
        exact dT (oneF_y er2 c_72 c_82) (bI_t rfl).symm
  refine r_iconst (v := 0) dX12_readsOne_0 (by decide) ?_
  refine r_istore_n dX12_readsOne_1 rfl (by decide) ?_
  refine r_aload_n dX12_readsOne_2 rfl rfl ?_
  refine r_getI dX12_readsOne_3 (ci := 12) (kf := 13) rfl (Nat.le_of_ble_eq_true rfl) (by decide) (by decide) rfl fl_X12_129 (Or.inl rfl) ?_
  rw [tp_t]
  refine r_iconst (v := 0) dX12_readsOne_6 (by decide) ?_
  refine r_iconst (v := 5) dX12_readsOne_7 (by decide) ?_
  refine r_callS_dI dX12_readsOne_8 (s_X12_in1 g _ _ _ _) mf_X12_in1 mt_X12_in1 ml_X12_63 rfl rfl (Nat.le_of_ble_eq_true rfl) ⟨(Nat.le_of_ble_eq_true rfl), (Nat.le_of_ble_eq_true rfl)⟩ ⟨(Nat.le_of_ble_eq_true rfl), (Nat.le_of_ble_eq_true rfl)⟩ ?_
  refine r_if_eq (tgt := 26) dX12_readsOne_11 (by decide) (fun c_11 => ?_) (fun c_11 => ?_)
  · have c_11 := bI_0 c_11
    (try dsimp only [Gs_M] at c_11)
    refine r_aload_n dX12_readsOne_26 rfl rfl ?_
    refine r_getI dX12_readsOne_27 (ci := 12) (kf := 13) rfl (Nat.le_of_ble_eq_true rfl) (by decide) (by decide) rfl fl_X12_129 (Or.inl rfl) ?_
    rw [tp_t]
    refine r_bipush (v := 6) dX12_readsOne_30 (by decide) ?_
    refine r_icmp_ne (tgt := 43) dX12_readsOne_32 (by decide) (fun c_32 => ?_) (fun c_32 => ?_)
    · (try dsimp only [Gs_M] at c_32)
      refine r_aload_n dX12_readsOne_43 rfl rfl ?_
      refine r_getI dX12_readsOne_44 (ci := 12) (kf := 13) rfl (Nat.le_of_ble_eq_true rfl) (by decide) (by decide) rfl fl_X12_129 (Or.inl rfl) ?_
      rw [tp_t]
      refine r_bipush (v := 7) dX12_readsOne_47 (by decide) ?_
      refine r_bipush (v := 10) dX12_readsOne_49 (by decide) ?_
      refine r_callS_dI dX12_readsOne_51 (s_X12_in1 g _ _ _ _) mf_X12_in1 mt_X12_in1 ml_X12_63 rfl rfl (Nat.le_of_ble_eq_true rfl) ⟨(Nat.le_of_ble_eq_true rfl), (Nat.le_of_ble_eq_true rfl)⟩ ⟨(Nat.le_of_ble_eq_true rfl), (Nat.le_of_ble_eq_true rfl)⟩ ?_
      refine r_if_eq (tgt := 71) dX12_readsOne_54 (by decide) (fun c_54 => ?_) (fun c_54 => ?_)
      · have c_54 := bI_0 c_54
        (try dsimp only [Gs_M] at c_54)
        exact PW.subL (J (false, R, P) (rd_3 c_11 c_32 c_54) he) (by repeat' first | exact True.intro | refine And.intro rfl ?_)
      · have c_54 := bI_n c_54
        (try dsimp only [Gs_M] at c_54)
        refine r_aload_n dX12_readsOne_57 rfl rfl ?_
        refine r_aload_n dX12_readsOne_58 rfl rfl ?_
        refine r_getI dX12_readsOne_59 (ci := 12) (kf := 13) rfl (Nat.le_of_ble_eq_true rfl) (by decide) (by decide) rfl fl_X12_129 (Or.inl rfl) ?_
        rw [tp_t]
        refine r_bipush (v := 7) dX12_readsOne_62 (by decide) ?_
        refine r_isub dX12_readsOne_64 ?_
        refine r_iconst (v := 1) dX12_readsOne_65 (by decide) ?_
        refine r_iadd dX12_readsOne_66 ?_
        obtain ⟨w, hw1, hw4, ew⟩ := lawTok c_54
        rw [show P.2.2.1 - 7 + 1 = nI w from ew]
        refine r_callV_dI (ci := 12) dX12_readsOne_67 (s_X12_readsLaw g hn en he w hw1 hw4) mf_X12_readsLaw mi_X12_readsLaw se_X12_X12_X12_readsLaw ml_X12_161 rfl rfl (Nat.le_of_ble_eq_true rfl) rfl (by decide) rfl (Nat.le_of_ble_eq_true rfl) ⟨(Nat.le_of_ble_eq_true rfl), (Nat.le_of_ble_eq_true rfl)⟩ ⟨(Nat.le_of_ble_eq_true rfl), (Nat.le_of_ble_eq_true rfl)⟩ ?_
        refine r_istore_n dX12_readsOne_70 rfl (by decide) ?_
        exact PW.subL (J _ (rd_2 c_11 c_32 c_54 ew hw4) (lwF_le he)) (by repeat' first | exact True.intro | refine And.intro rfl ?_)
    · (try dsimp only [Gs_M] at c_32)
      refine r_aload_n dX12_readsOne_35 rfl rfl ?_
      refine r_callV_dI (ci := 12) dX12_readsOne_36 (s_X12_readsWeight g hn en he) mf_X12_readsWeight mi_X12_readsWeight se_X12_X12_X12_readsWeight ml_X12_157 rfl rfl (Nat.le_of_ble_eq_true rfl) rfl (by decide) rfl (Nat.le_of_ble_eq_true rfl) ⟨(Nat.le_of_ble_eq_true rfl), (Nat.le_of_ble_eq_true rfl)⟩ ⟨(Nat.le_of_ble_eq_true rfl), (Nat.le_of_ble_eq_true rfl)⟩ ?_
      refine r_istore_n dX12_readsOne_39 rfl (by decide) ?_
      refine r_goto (tgt := 71) dX12_readsOne_40 (by decide) ?_
      exact PW.subL (J _ (rd_1 c_11 c_32) (wgF_le he)) (by repeat' first | exact True.intro | refine And.intro rfl ?_)
  · have c_11 := bI_n c_11
    (try dsimp only [Gs_M] at c_11)
    refine r_aload_n dX12_readsOne_14 rfl rfl ?_
    refine r_aload_n dX12_readsOne_15 rfl rfl ?_
    refine r_getI dX12_readsOne_16 (ci := 12) (kf := 13) rfl (Nat.le_of_ble_eq_true rfl) (by decide) (by decide) rfl fl_X12_129 (Or.inl rfl) ?_
    rw [tp_t]
    refine r_callV_dI (ci := 12) dX12_readsOne_19 (s_X12_readsPlayer g hn en he _ hp8 er) mf_X12_readsPlayer mi_X12_readsPlayer se_X12_X12_X12_readsPlayer ml_X12_154 rfl rfl (Nat.le_of_ble_eq_true rfl) rfl (by decide) rfl (Nat.le_of_ble_eq_true rfl) ⟨(Nat.le_of_ble_eq_true rfl), (Nat.le_of_ble_eq_true rfl)⟩ ⟨(Nat.le_of_ble_eq_true rfl), (Nat.le_of_ble_eq_true rfl)⟩ ?_
    refine r_istore_n dX12_readsOne_22 rfl (by decide) ?_
    refine r_goto (tgt := 71) dX12_readsOne_23 (by decide) ?_
    exact PW.subL (J _ (rd_0 c_11) (plF_le he)) (by repeat' first | exact True.intro | refine And.intro rfl ?_)
