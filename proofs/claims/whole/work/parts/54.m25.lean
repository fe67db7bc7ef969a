theorem tp_r {M : Nat → Nat → Int32} {R : Nat → Int32} {a g : Nat} {t v : Int32} : (Gs (tpS M R a g t v)).2.2.2 58 = R := rfl
theorem lwF_1n {L b : Nat → Int32} {n w : Nat} {R : Nat → Int32} {P : pT} (hw : w = 1 ∨ w = 2) (h : tnV (nextR L b n P) 9 < 0) : lwF L b n w R P = (false, upd R w (tnV (nextR L b n P) 9), tnP L b n (nextR L b n P) 9) := by
  unfold lwF; rw [if_pos hw, decide_eq_false (fun z => z h)]
theorem lwF_1y {L b : Nat → Int32} {n w : Nat} {R : Nat → Int32} {P : pT} (hw : w = 1 ∨ w = 2) (h : ¬ tnV (nextR L b n P) 9 < 0) : lwF L b n w R P = (true, upd R w (tnV (nextR L b n P) 9), tnP L b n (nextR L b n P) 9) := by
  unfold lwF; rw [if_pos hw, decide_eq_true h]
theorem lwF_2n {L b : Nat → Int32} {n w : Nat} {R : Nat → Int32} {P : pT} (hw : ¬ (w = 1 ∨ w = 2)) (h : tnV (nextR L b n P) 99 < 0) : lwF L b n w R P = (false, upd R w (tnV (nextR L b n P) 99), tnP L b n (nextR L b n P) 99) := by
  unfold lwF; rw [if_neg hw, decide_eq_false (fun z => z h)]
theorem lwF_2y {L b : Nat → Int32} {n w : Nat} {R : Nat → Int32} {P : pT} (hw : ¬ (w = 1 ∨ w = 2)) (h : ¬ tnV (nextR L b n P) 99 < 0) : lwF L b n w R P = (true, upd R w (tnV (nextR L b n P) 99), tnP L b n (nextR L b n P) 99) := by
  unfold lwF; rw [if_neg hw, decide_eq_true h]
theorem lwF_le {L b : Nat → Int32} {n w : Nat} {R : Nat → Int32} {P : pT} (h : P.1 ≤ n) : (lwF L b n w R P).2.2.1 ≤ n := by
  unfold lwF; split <;> exact tnP_le (nextR_le h).1
theorem wgF_le {L b : Nat → Int32} {n : Nat} {R : Nat → Int32} {P : pT} (h : P.1 ≤ n) : (wgF L b n R P).2.2.1 ≤ n := by
  unfold wgF; split
  · exact tnP_le (nextR_le h).1
  · exact tnP_le (tnP_le (nextR_le h).1)
theorem plE_le {L b : Nat → Int32} {n : Nat} {kd part : Int32} {R : Nat → Int32} {P : pT} (h : P.1 ≤ n) : (plE L b n kd R part P).2.2.1 ≤ n := by
  unfold plE
  exact ilF_le (skF_le h)
theorem plF_le {L b : Nat → Int32} {n : Nat} {kd : Int32} {R : Nat → Int32} {P : pT} (h : P.1 ≤ n) : (plF L b n kd R P).2.2.1 ≤ n := by
  unfold plF; split
  · exact h
  · split
    · split
      · exact tnP_le (nextR_le (nextR_le h).1).1
      · exact plE_le (tnP_le (nextR_le (nextR_le h).1).1)
    · exact (nextR_le h).1
theorem plF_1 {L b : Nat → Int32} {n : Nat} {kd : Int32} {R : Nat → Int32} {P : pT} (h : R 6 = 8) : plF L b n kd R P = (false, R, P) := by unfold plF; rw [if_pos h]
theorem plF_2 {L b : Nat → Int32} {n : Nat} {kd : Int32} {R : Nat → Int32} {P : pT} (h : ¬ R 6 = 8) (h2 : ¬ (nextR L b n P).2.2.1 = 11) : plF L b n kd R P = (false, R, nextR L b n P) := by unfold plF; rw [if_neg h, if_neg h2]
theorem plF_3 {L b : Nat → Int32} {n : Nat} {kd : Int32} {R : Nat → Int32} {P : pT} (h : ¬ R 6 = 8) (h2 : (nextR L b n P).2.2.1 = 11) (h3 : tnV (nextR L b n (nextR L b n P)) 7 < 0) : plF L b n kd R P = (false, R, tnP L b n (nextR L b n (nextR L b n P)) 7) := by unfold plF; rw [if_neg h, if_pos h2, if_pos h3]
theorem plF_4 {L b : Nat → Int32} {n p j : Nat} {kd sk il pv : Int32} {R : Nat → Int32} {P P1 P2 P3 P5 P7 : pT} {c : Bool} (h : ¬ R 6 = 8) (e1 : P1 = nextR L b n P) (h2 : P1.2.2.1 = 11) (e2 : P2 = nextR L b n P1) (ev : pv = tnV P2 7) (h3 : ¬ pv < 0) (e3 : P3 = tnP L b n P2 7) (hs : skF L b n P3 = (sk, P5)) (hi : ilF L b n sk P5 = (il, P7)) (hp : cl (R 6) = p) (hj : cl pv = j) (hc : (c = true) ↔ (¬ sk < 0 ∧ ¬ il < 0)) : plF L b n kd R P = (c, plN R p j kd pv il sk, P7) := by
  unfold plF
  rw [if_neg h, ← e1, if_pos h2, ← e2, ← ev, if_neg h3, ← e3]
  unfold plE
  rw [hs]
  dsimp only
  rw [hi, hp, hj]
  dsimp only
  congr 1
  cases c
  · exact decide_eq_false (fun z => absurd (hc.mpr z) (by decide))
  · exact decide_eq_true (hc.mp rfl)
set_option maxRecDepth 20000 in
set_option maxHeartbeats 1000000 in
theorem s_X12_readsLaw (g : pG) {M : Nat → Nat → Int32} {R : Nat → Int32} {n : Nat} (hn : n ≤ 200) (en : M 54 9 = nI n) {P : pT} (he : P.1 ≤ n) (w : Nat) (hw1 : 1 ≤ w) (hw4 : w ≤ 4) : MS g mX12_readsLaw 6 0 0 [.ref 54, .int (nI w)] (Gs (tpP M R P)) (dI (bI ((lwF (M 62) (M 61) n w R P).1 = true)) (Gs (tpP M (lwF (M 62) (M 61) n w R P).2.1 (lwF (M 62) (M 61) n w R P).2.2))) := by
  refine MS.of pn_X12 (Nat.le_of_ble_eq_true rfl) ?_
  refine r_aload_n dX12_readsLaw_0 rfl rfl ?_
  refine r_callV_dV (ci := 12) dX12_readsLaw_1 (s_next g hn en he) mf_X12_next mi_X12_next se_X12_X12_X12_next ml_X12_145 rfl rfl (Nat.le_of_ble_eq_true rfl) rfl (by decide) rfl (Nat.le_of_ble_eq_true rfl) ⟨(Nat.le_of_ble_eq_true rfl), (Nat.le_of_ble_eq_true rfl)⟩ ⟨(Nat.le_of_ble_eq_true rfl), (Nat.le_of_ble_eq_true rfl)⟩ ?_
  refine r_aload_n dX12_readsLaw_4 rfl rfl ?_
  refine r_iload_n dX12_readsLaw_5 rfl rfl ?_
  refine r_iconst (v := 1) dX12_readsLaw_6 (by decide) ?_
  refine r_icmp_eqN (w) (1) (tgt := 15) dX12_readsLaw_7 (by decide) (by omega) (by omega) (fun c_7 => ?_) (fun c_7 => ?_)
  · (try dsimp only [Gs_M] at c_7)
    refine r_bipush (v := 9) dX12_readsLaw_15 (by decide) ?_
    refine r_goto (tgt := 22) dX12_readsLaw_17 (by decide) ?_
    refine r_callV_dI (ci := 12) dX12_readsLaw_22 (s_X12_takesNumber g hn en (nextR_le he).1 _) mf_X12_takesNumber mi_X12_takesNumber se_X12_X12_X12_takesNumber ml_X12_151 rfl rfl (Nat.le_of_ble_eq_true rfl) rfl (by decide) rfl (Nat.le_of_ble_eq_true rfl) ⟨(Nat.le_of_ble_eq_true rfl), (Nat.le_of_ble_eq_true rfl)⟩ ⟨(Nat.le_of_ble_eq_true rfl), (Nat.le_of_ble_eq_true rfl)⟩ ?_
    refine r_istore_n dX12_readsLaw_25 rfl (by decide) ?_
    refine r_aload_n dX12_readsLaw_26 rfl rfl ?_
    refine r_getR (q := 58) dX12_readsLaw_27 (ci := 12) (kf := 3) rfl (Nat.le_of_ble_eq_true rfl) (by decide) (by decide) rfl fl_X12_19 (Or.inl rfl) rfl ?_
    refine r_iload_n dX12_readsLaw_30 rfl rfl ?_
    refine r_iload_n dX12_readsLaw_31 rfl rfl ?_
    refine r_iast (j := w) dX12_readsLaw_32 rfl (Nat.le_of_ble_eq_true rfl) rfl (by omega) (by decide) ?_
    rw [tp_sr]
    refine r_iload_n dX12_readsLaw_33 rfl rfl ?_
    refine r_if_lt (tgt := 41) dX12_readsLaw_34 (by decide) (fun c_34 => ?_) (fun c_34 => ?_)
    · (try dsimp only [Gs_M] at c_34)
      refine r_iconst (v := 0) dX12_readsLaw_41 (by decide) ?_
      refine r_zret dX12_readsLaw_42 rfl rfl (Nat.le_refl _) ?_
      (try dsimp only [Gs_M])
      exact dT (lwF_1n (Or.inl c_7) c_34) (bI_f (by decide)).symm
    · (try dsimp only [Gs_M] at c_34)
      refine r_iconst (v := 1) dX12_readsLaw_37 (by decide) ?_
      refine r_goto (tgt := 42) dX12_readsLaw_38 (by decide) ?_
      refine r_zret dX12_readsLaw_42 rfl rfl (Nat.le_refl _) ?_
      (try dsimp only [Gs_M])
      exact dT (lwF_1y (Or.inl c_7) c_34) (bI_t rfl).symm
  · (try dsimp only [Gs_M] at c_7)
    refine r_iload_n dX12_readsLaw_10 rfl rfl ?_
    refine r_iconst (v := 2) dX12_readsLaw_11 (by decide) ?_
    refine r_icmp_neN (w) (2) (tgt := 20) dX12_readsLaw_12 (by decide) (by omega) (by omega) (fun c_12 => ?_) (fun c_12 => ?_)
    · (try dsimp only [Gs_M] at c_12)
      refine r_bipush (v := 99) dX12_readsLaw_20 (by decide) ?_
      refine r_callV_dI (ci := 12) dX12_readsLaw_22 (s_X12_takesNumber g hn en (nextR_le he).1 _) mf_X12_takesNumber mi_X12_takesNumber se_X12_X12_X12_takesNumber ml_X12_151 rfl rfl (Nat.le_of_ble_eq_true rfl) rfl (by decide) rfl (Nat.le_of_ble_eq_true rfl) ⟨(Nat.le_of_ble_eq_true rfl), (Nat.le_of_ble_eq_true rfl)⟩ ⟨(Nat.le_of_ble_eq_true rfl), (Nat.le_of_ble_eq_true rfl)⟩ ?_
      refine r_istore_n dX12_readsLaw_25 rfl (by decide) ?_
      refine r_aload_n dX12_readsLaw_26 rfl rfl ?_
      refine r_getR (q := 58) dX12_readsLaw_27 (ci := 12) (kf := 3) rfl (Nat.le_of_ble_eq_true rfl) (by decide) (by decide) rfl fl_X12_19 (Or.inl rfl) rfl ?_
      refine r_iload_n dX12_readsLaw_30 rfl rfl ?_
      refine r_iload_n dX12_readsLaw_31 rfl rfl ?_
      refine r_iast (j := w) dX12_readsLaw_32 rfl (Nat.le_of_ble_eq_true rfl) rfl (by omega) (by decide) ?_
      rw [tp_sr]
      refine r_iload_n dX12_readsLaw_33 rfl rfl ?_
      refine r_if_lt (tgt := 41) dX12_readsLaw_34 (by decide) (fun c_34 => ?_) (fun c_34 => ?_)
      · (try dsimp only [Gs_M] at c_34)
        refine r_iconst (v := 0) dX12_readsLaw_41 (by decide) ?_
        refine r_zret dX12_readsLaw_42 rfl rfl (Nat.le_refl _) ?_
        (try dsimp only [Gs_M])
        exact dT (lwF_2n (fun z => z.elim c_7 c_12) c_34) (bI_f (by decide)).symm
      · (try dsimp only [Gs_M] at c_34)
        refine r_iconst (v := 1) dX12_readsLaw_37 (by decide) ?_
        refine r_goto (tgt := 42) dX12_readsLaw_38 (by decide) ?_
        refine r_zret dX12_readsLaw_42 rfl rfl (Nat.le_refl _) ?_
        (try dsimp only [Gs_M])
        exact dT (lwF_2y (fun z => z.elim c_7 c_12) c_34) (bI_t rfl).symm
    · (try dsimp only [Gs_M] at c_12)
      refine r_bipush (v := 9) dX12_readsLaw_15 (by decide) ?_
      refine r_goto (tgt := 22) dX12_readsLaw_17 (by decide) ?_
      refine r_callV_dI (ci := 12) dX12_readsLaw_22 (s_X12_takesNumber g hn en (nextR_le he).1 _) mf_X12_takesNumber mi_X12_takesNumber se_X12_X12_X12_takesNumber ml_X12_151 rfl rfl (Nat.le_of_ble_eq_true rfl) rfl (by decide) rfl (Nat.le_of_ble_eq_true rfl) ⟨(Nat.le_of_ble_eq_true rfl), (Nat.le_of_ble_eq_true rfl)⟩ ⟨(Nat.le_of_ble_eq_true rfl), (Nat.le_of_ble_eq_true rfl)⟩ ?_
      refine r_istore_n dX12_readsLaw_25 rfl (by decide) ?_
      refine r_aload_n dX12_readsLaw_26 rfl rfl ?_
      refine r_getR (q := 58) dX12_readsLaw_27 (ci := 12) (kf := 3) rfl (Nat.le_of_ble_eq_true rfl) (by decide) (by decide) rfl fl_X12_19 (Or.inl rfl) rfl ?_
      refine r_iload_n dX12_readsLaw_30 rfl rfl ?_
      refine r_iload_n dX12_readsLaw_31 rfl rfl ?_
      refine r_iast (j := w) dX12_readsLaw_32 rfl (Nat.le_of_ble_eq_true rfl) rfl (by omega) (by decide) ?_
      rw [tp_sr]
      refine r_iload_n dX12_readsLaw_33 rfl rfl ?_
      refine r_if_lt (tgt := 41) dX12_readsLaw_34 (by decide) (fun c_34 => ?_) (fun c_34 => ?_)
      · (try dsimp only [Gs_M] at c_34)
        refine r_iconst (v := 0) dX12_readsLaw_41 (by decide) ?_
        refine r_zret dX12_readsLaw_42 rfl rfl (Nat.le_refl _) ?_
        (try dsimp only [Gs_M])
        exact dT (lwF_1n (Or.inr c_12) c_34) (bI_f (by decide)).symm
      · (try dsimp only [Gs_M] at c_34)
        refine r_iconst (v := 1) dX12_readsLaw_37 (by decide) ?_
        refine r_goto (tgt := 42) dX12_readsLaw_38 (by decide) ?_
        refine r_zret dX12_readsLaw_42 rfl rfl (Nat.le_refl _) ?_
        (try dsimp only [Gs_M])
        exact dT (lwF_1y (Or.inr c_12) c_34) (bI_t rfl).symm
theorem skF_n {L b : Nat → Int32} {n : Nat} {P : pT} (h : ¬ P.2.2.1 = 12) : skF L b n P = (60, P) := by unfold skF; rw [if_neg h]
theorem skF_y {L b : Nat → Int32} {n : Nat} {P P4 P5 : pT} {sk : Int32} (h : P.2.2.1 = 12) (e4 : P4 = nextR L b n P) (es : sk = tnV P4 99) (e5 : P5 = tnP L b n P4 99) : skF L b n P = (sk, P5) := by unfold skF; rw [if_pos h, ← e4, ← es, ← e5]
theorem ilF_n {L b : Nat → Int32} {n : Nat} {P : pT} {s : Int32} (h : ¬ (¬ s < 0 ∧ P.2.2.1 = 13)) : ilF L b n s P = (0, P) := by unfold ilF; rw [if_neg h]
theorem ilF_y {L b : Nat → Int32} {n : Nat} {P P6 P7 : pT} {s il : Int32} (h0 : ¬ s < 0) (h : P.2.2.1 = 13) (e6 : P6 = nextR L b n P) (ei : il = tnV P6 9) (e7 : P7 = tnP L b n P6 9) : ilF L b n s P = (il, P7) := by unfold ilF; rw [if_pos ⟨h0, h⟩, ← e6, ← ei, ← e7]
set_option maxRecDepth 20000 in
set_option maxHeartbeats 8000000 in
theorem s_X12_readsPlayer (g : pG) {M : Nat → Nat → Int32} {R : Nat → Int32} {n : Nat} (hn : n ≤ 200) (en : M 54 9 = nI n) {P : pT} (he : P.1 ≤ n) (kd : Int32) {p : Nat} (hp8 : p ≤ 8) (er : R 6 = nI p) : MS g mX12_readsPlayer 6 0 0 [.ref 54, .int kd] (Gs (tpP M R P)) (dI (bI ((plF (M 62) (M 61) n kd R P).1 = true)) (Gs (tpP M (plF (M 62) (M 61) n kd R P).2.1 (plF (M 62) (M 61) n kd R P).2.2))) := by
  refine MS.of pn_X12 (Nat.le_of_ble_eq_true rfl) ?_
  have J : ∀ (P7 : pT) (pv sk il : Int32) (j : Nat), pv = nI j → j ≤ 7 → p < 8 → (∀ c, ((c = true) ↔ (¬ sk < 0 ∧ ¬ il < 0)) → (plF (M 62) (M 61) n kd R P) = (c, plN R p j kd pv il sk, P7)) → PW g mX12_readsPlayer (eN g (Gs (tpP M R P)).1 6 0 0 (dI (bI ((plF (M 62) (M 61) n kd R P).1 = true)) (Gs (tpP M (plF (M 62) (M 61) n kd R P).2.1 (plF (M 62) (M 61) n kd R P).2.2)))) 85 [some (.ref 54), some (.int kd), some (.int pv), some (.int sk), some (.int il), none] [] (Gs (tpP M R P7)) 0 0 := by
    intro P7 pv sk il j ej hj hp hF
    refine r_bipush (v := 16) dX12_readsPlayer_85 (by decide) ?_
    refine r_bipush (v := 11) dX12_readsPlayer_87 (by decide) ?_
    refine r_aload_n dX12_readsPlayer_89 rfl rfl ?_
    refine r_getR (q := 58) dX12_readsPlayer_90 (ci := 12) (kf := 3) rfl (Nat.le_of_ble_eq_true rfl) (by decide) (by decide) rfl fl_X12_19 (Or.inl rfl) rfl ?_
    refine r_bipush (v := 6) dX12_readsPlayer_93 (by decide) ?_
    refine r_iald (j := 6) dX12_readsPlayer_95 rfl (Nat.le_of_ble_eq_true rfl) rfl (by decide) (by decide) ?_
    rw [tp_r, er]
    refine r_imulN (11) (p) dX12_readsPlayer_96 ?_
    refine r_iaddN (16) ((11 * p)) dX12_readsPlayer_97 ?_
    refine r_istore dX12_readsPlayer_98 (by decide) ?_
    refine r_aload_n dX12_readsPlayer_100 rfl rfl ?_
    refine r_getR (q := 58) dX12_readsPlayer_101 (ci := 12) (kf := 3) rfl (Nat.le_of_ble_eq_true rfl) (by decide) (by decide) rfl fl_X12_19 (Or.inl rfl) rfl ?_
    refine r_iload dX12_readsPlayer_104 rfl ?_
    refine r_iload_n dX12_readsPlayer_106 rfl rfl ?_
    refine r_iast (j := (16 + (11 * p))) dX12_readsPlayer_107 rfl (Nat.le_of_ble_eq_true rfl) rfl (by omega) (by decide) ?_
    rw [tp_sr]
    refine r_aload_n dX12_readsPlayer_108 rfl rfl ?_
    refine r_getR (q := 58) dX12_readsPlayer_109 (ci := 12) (kf := 3) rfl (Nat.le_of_ble_eq_true rfl) (by decide) (by decide) rfl fl_X12_19 (Or.inl rfl) rfl ?_
    refine r_iload dX12_readsPlayer_112 rfl ?_
    refine r_iconst (v := 1) dX12_readsPlayer_114 (by decide) ?_
    refine r_iaddN ((16 + (11 * p))) (1) dX12_readsPlayer_115 ?_
    refine r_iload_n dX12_readsPlayer_116 rfl rfl ?_
    refine r_iast (j := ((16 + (11 * p)) + 1)) dX12_readsPlayer_117 rfl (Nat.le_of_ble_eq_true rfl) rfl (by omega) (by decide) ?_
    rw [tp_sr]
    refine r_aload_n dX12_readsPlayer_118 rfl rfl ?_
    refine r_getR (q := 58) dX12_readsPlayer_119 (ci := 12) (kf := 3) rfl (Nat.le_of_ble_eq_true rfl) (by decide) (by decide) rfl fl_X12_19 (Or.inl rfl) rfl ?_
    refine r_iload dX12_readsPlayer_122 rfl ?_
    refine r_iconst (v := 2) dX12_readsPlayer_124 (by decide) ?_
    refine r_iaddN ((16 + (11 * p))) (2) dX12_readsPlayer_125 ?_
    refine r_iload dX12_readsPlayer_126 rfl ?_
    refine r_iast (j := ((16 + (11 * p)) + 2)) dX12_readsPlayer_128 rfl (Nat.le_of_ble_eq_true rfl) rfl (by omega) (by decide) ?_
    rw [tp_sr]
    refine r_aload_n dX12_readsPlayer_129 rfl rfl ?_
    refine r_getR (q := 58) dX12_readsPlayer_130 (ci := 12) (kf := 3) rfl (Nat.le_of_ble_eq_true rfl) (by decide) (by decide) rfl fl_X12_19 (Or.inl rfl) rfl ?_
    refine r_iload dX12_readsPlayer_133 rfl ?_
    refine r_iconst (v := 3) dX12_readsPlayer_135 (by decide) ?_
    refine r_iaddN ((16 + (11 * p))) (3) dX12_readsPlayer_136 ?_
    refine r_iload_n dX12_readsPlayer_137 rfl rfl ?_
    refine r_iadd dX12_readsPlayer_138 ?_
    refine r_iload_n dX12_readsPlayer_139 rfl rfl ?_
    refine r_iast (j := 16 + 11 * p + 3 + j) dX12_readsPlayer_140 rfl (Nat.le_of_ble_eq_true rfl) (by rw [ej, nI_add]) (by omega) (by decide) ?_
    rw [tp_sr]
    refine r_aload_n dX12_readsPlayer_141 rfl rfl ?_
    refine r_getR (q := 58) dX12_readsPlayer_142 (ci := 12) (kf := 3) rfl (Nat.le_of_ble_eq_true rfl) (by decide) (by decide) rfl fl_X12_19 (Or.inl rfl) rfl ?_
    refine r_bipush (v := 6) dX12_readsPlayer_145 (by decide) ?_
    refine r_dup2 dX12_readsPlayer_147 rfl rfl ?_
    refine r_iald (j := 6) dX12_readsPlayer_148 rfl (Nat.le_of_ble_eq_true rfl) rfl (by decide) (by decide) ?_
    rw [tp_r, pk_un (by omega), pk_un (by omega), pk_un (by omega), pk_un (by omega), er]
    refine r_iconst (v := 1) dX12_readsPlayer_149 (by decide) ?_
    refine r_iaddN (p) (1) dX12_readsPlayer_150 ?_
    refine r_iast (j := 6) dX12_readsPlayer_151 rfl (Nat.le_of_ble_eq_true rfl) rfl (by decide) (by decide) ?_
    rw [tp_sr]
    refine r_iload_n dX12_readsPlayer_152 rfl rfl ?_
    refine r_if_lt (tgt := 165) dX12_readsPlayer_153 (by decide) (fun c_153 => ?_) (fun c_153 => ?_)
    · (try dsimp only [Gs_M] at c_153)
      refine r_iconst (v := 0) dX12_readsPlayer_165 (by decide) ?_
      refine r_zret dX12_readsPlayer_166 rfl rfl (Nat.le_refl _) ?_
      (try dsimp only [Gs_M])
      exact dT (hF false ⟨fun z => absurd z (by decide), fun z => (z.1 c_153).elim⟩) (bI_f (by decide)).symm
    · (try dsimp only [Gs_M] at c_153)
      refine r_iload dX12_readsPlayer_156 rfl ?_
      refine r_if_lt (tgt := 165) dX12_readsPlayer_158 (by decide) (fun c_158 => ?_) (fun c_158 => ?_)
      · (try dsimp only [Gs_M] at c_158)
        refine r_iconst (v := 0) dX12_readsPlayer_165 (by decide) ?_
        refine r_zret dX12_readsPlayer_166 rfl rfl (Nat.le_refl _) ?_
        (try dsimp only [Gs_M])
        exact dT (hF false ⟨fun z => absurd z (by decide), fun z => (z.2 c_158).elim⟩) (bI_f (by decide)).symm
      · (try dsimp only [Gs_M] at c_158)
        refine r_iconst (v := 1) dX12_readsPlayer_161 (by decide) ?_
        refine r_goto (tgt := 166) dX12_readsPlayer_162 (by decide) ?_
        refine r_zret dX12_readsPlayer_166 rfl rfl (Nat.le_refl _) ?_
        (try dsimp only [Gs_M])
        exact dT (hF true ⟨fun _ => ⟨c_153, c_158⟩, fun _ => rfl⟩) (bI_t rfl).symm
  refine r_aload_n dX12_readsPlayer_0 rfl rfl ?_
  refine r_getR (q := 58) dX12_readsPlayer_1 (ci := 12) (kf := 3) rfl (Nat.le_of_ble_eq_true rfl) (by decide) (by decide) rfl fl_X12_19 (Or.inl rfl) rfl ?_
  refine r_bipush (v := 6) dX12_readsPlayer_4 (by decide) ?_
  refine r_iald (j := 6) dX12_readsPlayer_6 rfl (Nat.le_of_ble_eq_true rfl) rfl (by decide) (by decide) ?_
  refine r_bipush (v := 8) dX12_readsPlayer_7 (by decide) ?_
  refine r_icmp_ne (tgt := 14) dX12_readsPlayer_9 (by decide) (fun c_9 => ?_) (fun c_9 => ?_)
  · (try dsimp only [Gs_M] at c_9)
    have c_9 : ¬ R 6 = 8 := c_9
    have hp : p < 8 := by
      rcases Nat.lt_or_ge p 8 with h | h
      · exact h
      · exact absurd (by rw [er, show p = 8 by omega]; rfl) c_9
    refine r_aload_n dX12_readsPlayer_14 rfl rfl ?_
    refine r_callV_dV (ci := 12) dX12_readsPlayer_15 (s_next g hn en he) mf_X12_next mi_X12_next se_X12_X12_X12_next ml_X12_145 rfl rfl (Nat.le_of_ble_eq_true rfl) rfl (by decide) rfl (Nat.le_of_ble_eq_true rfl) ⟨(Nat.le_of_ble_eq_true rfl), (Nat.le_of_ble_eq_true rfl)⟩ ⟨(Nat.le_of_ble_eq_true rfl), (Nat.le_of_ble_eq_true rfl)⟩ ?_
    obtain ⟨P1, e1⟩ : ∃ X, X = nextR (M 62) (M 61) n P := ⟨_, rfl⟩
    have he1 : P1.1 ≤ n := by rw [e1]; exact (nextR_le he).1
    rw [← e1]
    refine r_aload_n dX12_readsPlayer_18 rfl rfl ?_
    refine r_bipush (v := 11) dX12_readsPlayer_19 (by decide) ?_
    refine r_callV_dI (ci := 12) dX12_readsPlayer_21 (s_X12_takes g hn en he1 _) mf_X12_takes mi_X12_takes se_X12_X12_X12_takes ml_X12_148 rfl rfl (Nat.le_of_ble_eq_true rfl) rfl (by decide) rfl (Nat.le_of_ble_eq_true rfl) ⟨(Nat.le_of_ble_eq_true rfl), (Nat.le_of_ble_eq_true rfl)⟩ ⟨(Nat.le_of_ble_eq_true rfl), (Nat.le_of_ble_eq_true rfl)⟩ ?_
    refine r_if_ne (tgt := 29) dX12_readsPlayer_24 (by decide) (fun c_24 => ?_) (fun c_24 => ?_)
    · have c_24 := bI_n c_24
      (try dsimp only [Gs_M] at c_24)
      rw [show (tkP (M 62) (M 61) n P1 11) = nextR (M 62) (M 61) n P1 from if_pos c_24]
      obtain ⟨P2, e2⟩ : ∃ X, X = nextR (M 62) (M 61) n P1 := ⟨_, rfl⟩
      have he2 : P2.1 ≤ n := by rw [e2]; exact (nextR_le he1).1
      rw [← e2]
      refine r_aload_n dX12_readsPlayer_29 rfl rfl ?_
      refine r_bipush (v := 7) dX12_readsPlayer_30 (by decide) ?_
      refine r_callV_dI (ci := 12) dX12_readsPlayer_32 (s_X12_takesNumber g hn en he2 _) mf_X12_takesNumber mi_X12_takesNumber se_X12_X12_X12_takesNumber ml_X12_151 rfl rfl (Nat.le_of_ble_eq_true rfl) rfl (by decide) rfl (Nat.le_of_ble_eq_true rfl) ⟨(Nat.le_of_ble_eq_true rfl), (Nat.le_of_ble_eq_true rfl)⟩ ⟨(Nat.le_of_ble_eq_true rfl), (Nat.le_of_ble_eq_true rfl)⟩ ?_
      obtain ⟨P3, e3⟩ : ∃ X, X = (tnP (M 62) (M 61) n P2 7) := ⟨_, rfl⟩
      have he3 : P3.1 ≤ n := by rw [e3]; exact tnP_le he2
      rw [← e3]
      obtain ⟨pv, ev_pv⟩ : ∃ X, X = tnV P2 7 := ⟨_, rfl⟩
      rw [← ev_pv]
      refine r_istore_n dX12_readsPlayer_35 rfl (by decide) ?_
      refine r_iload_n dX12_readsPlayer_36 rfl rfl ?_
      refine r_if_ge (tgt := 42) dX12_readsPlayer_37 (by decide) (fun c_37 => ?_) (fun c_37 => ?_)
      · (try dsimp only [Gs_M] at c_37)
        obtain ⟨j, hj, ej⟩ : ∃ j, j ≤ 7 ∧ pv = nI j := by rw [ev_pv]; exact tn_rng 7 (by decide) (by rw [← ev_pv]; exact Int32.not_lt.mpr c_37)
        obtain ⟨qv, eq_⟩ : ∃ q, q = pv := ⟨_, rfl⟩
        refine r_bipush (v := 60) dX12_readsPlayer_42 (by decide) ?_
        refine r_istore_n dX12_readsPlayer_44 rfl (by decide) ?_
        refine r_aload_n dX12_readsPlayer_45 rfl rfl ?_
        refine r_bipush (v := 12) dX12_readsPlayer_46 (by decide) ?_
        refine r_callV_dI (ci := 12) dX12_readsPlayer_48 (s_X12_takes g hn en he3 _) mf_X12_takes mi_X12_takes se_X12_X12_X12_takes ml_X12_148 rfl rfl (Nat.le_of_ble_eq_true rfl) rfl (by decide) rfl (Nat.le_of_ble_eq_true rfl) ⟨(Nat.le_of_ble_eq_true rfl), (Nat.le_of_ble_eq_true rfl)⟩ ⟨(Nat.le_of_ble_eq_true rfl), (Nat.le_of_ble_eq_true rfl)⟩ ?_
        refine r_if_eq (tgt := 61) dX12_readsPlayer_51 (by decide) (fun c_51 => ?_) (fun c_51 => ?_)
        · have c_51 := bI_0 c_51
          (try dsimp only [Gs_M] at c_51)
          rw [show (tkP (M 62) (M 61) n P3 12) = P3 from if_neg c_51]
          refine r_iconst (v := 0) dX12_readsPlayer_61 (by decide) ?_
          refine r_istore dX12_readsPlayer_62 (by decide) ?_
          refine r_iload_n dX12_readsPlayer_64 rfl rfl ?_
          refine r_if_lt (tgt := 85) dX12_readsPlayer_65 (by decide) (fun c => absurd c (by decide)) (fun _ => ?_)
          refine r_aload_n dX12_readsPlayer_68 rfl rfl ?_
          refine r_bipush (v := 13) dX12_readsPlayer_69 (by decide) ?_
          refine r_callV_dI (ci := 12) dX12_readsPlayer_71 (s_X12_takes g hn en he3 _) mf_X12_takes mi_X12_takes se_X12_X12_X12_takes ml_X12_148 rfl rfl (Nat.le_of_ble_eq_true rfl) rfl (by decide) rfl (Nat.le_of_ble_eq_true rfl) ⟨(Nat.le_of_ble_eq_true rfl), (Nat.le_of_ble_eq_true rfl)⟩ ⟨(Nat.le_of_ble_eq_true rfl), (Nat.le_of_ble_eq_true rfl)⟩ ?_
          refine r_if_eq (tgt := 85) dX12_readsPlayer_74 (by decide) (fun c_74 => ?_) (fun c_74 => ?_)
          · have c_74 := bI_0 c_74
            (try dsimp only [Gs_M] at c_74)
            rw [show (tkP (M 62) (M 61) n P3 13) = P3 from if_neg c_74]
            have hs : skF (M 62) (M 61) n P3 = (60, P3) := skF_n c_51
            have hi : ilF (M 62) (M 61) n 60 P3 = (0, P3) := ilF_n (fun z => c_74 z.2)
            exact PW.subL (J P3 pv 60 0 j ej hj hp (fun c hc => plF_4 c_9 e1 c_24 e2 ev_pv (Int32.not_lt.mpr c_37) e3 hs hi (by rw [er, cl_nI (by omega)]) (by rw [ej, cl_nI (by omega)]) hc)) (by repeat' first | exact True.intro | refine And.intro rfl ?_)
          · have c_74 := bI_n c_74
            (try dsimp only [Gs_M] at c_74)
            rw [show (tkP (M 62) (M 61) n P3 13) = nextR (M 62) (M 61) n P3 from if_pos c_74]
            obtain ⟨P6, e6⟩ : ∃ X, X = nextR (M 62) (M 61) n P3 := ⟨_, rfl⟩
            have he6 : P6.1 ≤ n := by rw [e6]; exact (nextR_le he3).1
            rw [← e6]
            refine r_aload_n dX12_readsPlayer_77 rfl rfl ?_
            refine r_bipush (v := 9) dX12_readsPlayer_78 (by decide) ?_
            refine r_callV_dI (ci := 12) dX12_readsPlayer_80 (s_X12_takesNumber g hn en he6 _) mf_X12_takesNumber mi_X12_takesNumber se_X12_X12_X12_takesNumber ml_X12_151 rfl rfl (Nat.le_of_ble_eq_true rfl) rfl (by decide) rfl (Nat.le_of_ble_eq_true rfl) ⟨(Nat.le_of_ble_eq_true rfl), (Nat.le_of_ble_eq_true rfl)⟩ ⟨(Nat.le_of_ble_eq_true rfl), (Nat.le_of_ble_eq_true rfl)⟩ ?_
            obtain ⟨P7, e7⟩ : ∃ X, X = (tnP (M 62) (M 61) n P6 9) := ⟨_, rfl⟩
            have he7 : P7.1 ≤ n := by rw [e7]; exact tnP_le he6
            rw [← e7]
            obtain ⟨il, ev_il⟩ : ∃ X, X = tnV P6 9 := ⟨_, rfl⟩
            rw [← ev_il]
            refine r_istore dX12_readsPlayer_83 (by decide) ?_
            have hs : skF (M 62) (M 61) n P3 = (60, P3) := skF_n c_51
            have hi : ilF (M 62) (M 61) n 60 P3 = (il, P7) := ilF_y (by decide) c_74 e6 ev_il e7
            exact PW.subL (J P7 pv 60 il j ej hj hp (fun c hc => plF_4 c_9 e1 c_24 e2 ev_pv (Int32.not_lt.mpr c_37) e3 hs hi (by rw [er, cl_nI (by omega)]) (by rw [ej, cl_nI (by omega)]) hc)) (by repeat' first | exact True.intro | refine And.intro rfl ?_)
        · have c_51 := bI_n c_51
          (try dsimp only [Gs_M] at c_51)
          rw [show (tkP (M 62) (M 61) n P3 12) = nextR (M 62) (M 61) n P3 from if_pos c_51]
          obtain ⟨P4, e4⟩ : ∃ X, X = nextR (M 62) (M 61) n P3 := ⟨_, rfl⟩
          have he4 : P4.1 ≤ n := by rw [e4]; exact (nextR_le he3).1
          rw [← e4]
          refine r_aload_n dX12_readsPlayer_54 rfl rfl ?_
          refine r_bipush (v := 99) dX12_readsPlayer_55 (by decide) ?_
          refine r_callV_dI (ci := 12) dX12_readsPlayer_57 (s_X12_takesNumber g hn en he4 _) mf_X12_takesNumber mi_X12_takesNumber se_X12_X12_X12_takesNumber ml_X12_151 rfl rfl (Nat.le_of_ble_eq_true rfl) rfl (by decide) rfl (Nat.le_of_ble_eq_true rfl) ⟨(Nat.le_of_ble_eq_true rfl), (Nat.le_of_ble_eq_true rfl)⟩ ⟨(Nat.le_of_ble_eq_true rfl), (Nat.le_of_ble_eq_true rfl)⟩ ?_
          obtain ⟨P5, e5⟩ : ∃ X, X = (tnP (M 62) (M 61) n P4 99) := ⟨_, rfl⟩
          have he5 : P5.1 ≤ n := by rw [e5]; exact tnP_le he4
          rw [← e5]
          obtain ⟨sk, ev_sk⟩ : ∃ X, X = tnV P4 99 := ⟨_, rfl⟩
          rw [← ev_sk]
          refine r_istore_n dX12_readsPlayer_60 rfl (by decide) ?_
          refine r_iconst (v := 0) dX12_readsPlayer_61 (by decide) ?_
          refine r_istore dX12_readsPlayer_62 (by decide) ?_
          refine r_iload_n dX12_readsPlayer_64 rfl rfl ?_
          refine r_if_lt (tgt := 85) dX12_readsPlayer_65 (by decide) (fun c_65 => ?_) (fun c_65 => ?_)
          · (try dsimp only [Gs_M] at c_65)
            have hs : skF (M 62) (M 61) n P3 = (sk, P5) := skF_y c_51 e4 ev_sk e5
            have hi : ilF (M 62) (M 61) n sk P5 = (0, P5) := ilF_n (fun z => z.1 c_65)
            exact PW.subL (J P5 pv sk 0 j ej hj hp (fun c hc => plF_4 c_9 e1 c_24 e2 ev_pv (Int32.not_lt.mpr c_37) e3 hs hi (by rw [er, cl_nI (by omega)]) (by rw [ej, cl_nI (by omega)]) hc)) (by repeat' first | exact True.intro | refine And.intro rfl ?_)
          · (try dsimp only [Gs_M] at c_65)
            refine r_aload_n dX12_readsPlayer_68 rfl rfl ?_
            refine r_bipush (v := 13) dX12_readsPlayer_69 (by decide) ?_
            refine r_callV_dI (ci := 12) dX12_readsPlayer_71 (s_X12_takes g hn en he5 _) mf_X12_takes mi_X12_takes se_X12_X12_X12_takes ml_X12_148 rfl rfl (Nat.le_of_ble_eq_true rfl) rfl (by decide) rfl (Nat.le_of_ble_eq_true rfl) ⟨(Nat.le_of_ble_eq_true rfl), (Nat.le_of_ble_eq_true rfl)⟩ ⟨(Nat.le_of_ble_eq_true rfl), (Nat.le_of_ble_eq_true rfl)⟩ ?_
            refine r_if_eq (tgt := 85) dX12_readsPlayer_74 (by decide) (fun c_74 => ?_) (fun c_74 => ?_)
            · have c_74 := bI_0 c_74
              (try dsimp only [Gs_M] at c_74)
              rw [show (tkP (M 62) (M 61) n P5 13) = P5 from if_neg c_74]
              have hs : skF (M 62) (M 61) n P3 = (sk, P5) := skF_y c_51 e4 ev_sk e5
              have hi : ilF (M 62) (M 61) n sk P5 = (0, P5) := ilF_n (fun z => c_74 z.2)
              exact PW.subL (J P5 pv sk 0 j ej hj hp (fun c hc => plF_4 c_9 e1 c_24 e2 ev_pv (Int32.not_lt.mpr c_37) e3 hs hi (by rw [er, cl_nI (by omega)]) (by rw [ej, cl_nI (by omega)]) hc)) (by repeat' first | exact True.intro | refine And.intro rfl ?_)
            · have c_74 := bI_n c_74
              (try dsimp only [Gs_M] at c_74)
              rw [show (tkP (M 62) (M 61) n P5 13) = nextR (M 62) (M 61) n P5 from if_pos c_74]
              obtain ⟨P6, e6⟩ : ∃ X, X = nextR (M 62) (M 61) n P5 := ⟨_, rfl⟩
              have he6 : P6.1 ≤ n := by rw [e6]; exact (nextR_le he5).1
              rw [← e6]
              refine r_aload_n dX12_readsPlayer_77 rfl rfl ?_
              refine r_bipush (v := 9) dX12_readsPlayer_78 (by decide) ?_
              refine r_callV_dI (ci := 12) dX12_readsPlayer_80 (s_X12_takesNumber g hn en he6 _) mf_X12_takesNumber mi_X12_takesNumber se_X12_X12_X12_takesNumber ml_X12_151 rfl rfl (Nat.le_of_ble_eq_true rfl) rfl (by decide) rfl (Nat.le_of_ble_eq_true rfl) ⟨(Nat.le_of_ble_eq_true rfl), (Nat.le_of_ble_eq_true rfl)⟩ ⟨(Nat.le_of_ble_eq_true rfl), (Nat.le_of_ble_eq_true rfl)⟩ ?_
              obtain ⟨P7, e7⟩ : ∃ X, X = (tnP (M 62) (M 61) n P6 9) := ⟨_, rfl⟩
              have he7 : P7.1 ≤ n := by rw [e7]; exact tnP_le he6
              rw [← e7]
              obtain ⟨il, ev_il⟩ : ∃ X, X = tnV P6 9 := ⟨_, rfl⟩
              rw [← ev_il]
              refine r_istore dX12_readsPlayer_83 (by decide) ?_
              have hs : skF (M 62) (M 61) n P3 = (sk, P5) := skF_y c_51 e4 ev_sk e5
              have hi : ilF (M 62) (M 61) n sk P5 = (il, P7) := ilF_y c_65 c_74 e6 ev_il e7
              exact PW.subL (J P7 pv sk il j ej hj hp (fun c hc => plF_4 c_9 e1 c_24 e2 ev_pv (Int32.not_lt.mpr c_37) e3 hs hi (by rw [er, cl_nI (by omega)]) (by rw [ej, cl_nI (by omega)]) hc)) (by repeat' first | exact True.intro | refine And.intro rfl ?_)
      · (try dsimp only [Gs_M] at c_37)
        refine r_iconst (v := 0) dX12_readsPlayer_40 (by decide) ?_
        refine r_zret dX12_readsPlayer_41 rfl rfl (Nat.le_refl _) ?_
        (try dsimp only [Gs_M])
        rw [e3, e2, e1]
        exact dT (plF_3 c_9 (by rw [← e1]; exact c_24) (by rw [← e1, ← e2, ← ev_pv]; exact Int32.not_le.mp c_37)) (bI_f (by decide)).symm
    · have c_24 := bI_0 c_24
      (try dsimp only [Gs_M] at c_24)
      rw [show (tkP (M 62) (M 61) n P1 11) = P1 from if_neg c_24]
      refine r_iconst (v := 0) dX12_readsPlayer_27 (by decide) ?_
      refine r_zret dX12_readsPlayer_28 rfl rfl (Nat.le_refl _) ?_
      (try dsimp only [Gs_M])
      rw [e1]
      exact dT (plF_2 c_9 (by rw [← e1]; exact c_24)) (bI_f (by decide)).symm
  · (try dsimp only [Gs_M] at c_9)
    have c_9 : R 6 = 8 := c_9
    refine r_iconst (v := 0) dX12_readsPlayer_12 (by decide) ?_
    refine r_zret dX12_readsPlayer_13 rfl rfl (Nat.le_refl _) ?_
    (try dsimp only [Gs_M])
    exact dT (plF_1 c_9) (bI_f (by decide)).symm
