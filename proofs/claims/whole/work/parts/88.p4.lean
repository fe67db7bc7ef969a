theorem opC_or {b : Nat → Int32} {n a : Nat} : ∀ m, m ≤ 11 → fwR (nmC b n a) m = -3 ∨ ∃ j, j < m ∧ fwR (nmC b n a) m = nI j
  | 0, _ => Or.inl rfl
  | m + 1, h => by
    rw [fwR]
    rcases opC_or (b := b) (n := n) (a := a) m (by omega) with e | ⟨j, hj, e⟩
    · rw [if_pos e]
      split
      · exact Or.inr ⟨m, by omega, rfl⟩
      · exact Or.inl rfl
    · rw [e, if_neg (nI_ne3 (by omega))]
      exact Or.inr ⟨j, by omega, rfl⟩
theorem opA_le {b : Nat → Int32} {n a : Nat} (h : a ≤ n) : opA b n a ≤ n := by
  unfold opA
  split
  · exact h
  · exact nmA_le h
def on1 (b : Nat → Int32) (n : Nat) (W : Nat → Int32) (a : Nat) (f : Int32) : tT := (upd W (8 + cl (nuV b n a 7)) (nuV b n (nuA b n a 7) 9), nuA b n (nuA b n a 7) 9, nuF b n (nuA b n a 7) 9 (nuF b n a 7 f))
def on2 (b : Nat → Int32) (n i : Nat) (W : Nat → Int32) (a : Nat) (f : Int32) : tT := (upd W (1 + i) (nuV b n a (kF 1 i)), nuA b n a (kF 1 i), nuF b n a (kF 1 i) f)
def oneC (b : Nat → Int32) (n : Nat) (W : Nat → Int32) (a : Nat) (f : Int32) : tT :=
  if opC b n a = -3 ∨ (opC b n a < 6 ∧ W 6 = 8) then (W, opA b n a, flC f (nI a))
  else if opC b n a < 6 then tplC b n (opC b n a) W (opA b n a) f
  else if opC b n a = 10 then on1 b n W (opA b n a) f
  else on2 b n (cl (opC b n a) - 6) W (opA b n a) f
theorem lt6 {k : Nat} (h : k < 11) : nI k < 6 ↔ k < 6 := nI_ltI (b := 6) (by omega) (by omega)
theorem one_0 {b : Nat → Int32} {n : Nat} {W : Nat → Int32} {a : Nat} {f : Int32} (h : opC b n a = -3) : oneC b n W a f = (W, opA b n a, flC f (nI a)) := by unfold oneC; rw [if_pos (Or.inl h)]
theorem one_8 {b : Nat → Int32} {n k : Nat} {W : Nat → Int32} {a : Nat} {f : Int32} (hk : k < 11) (e : opC b n a = nI k) (h : k < 6) (h2 : W 6 = 8) : oneC b n W a f = (W, opA b n a, flC f (nI a)) := by unfold oneC; rw [if_pos (Or.inr ⟨by rw [e]; exact (lt6 hk).mpr h, h2⟩)]
theorem one_k {b : Nat → Int32} {n k : Nat} {W : Nat → Int32} {a : Nat} {f : Int32} (hk : k < 11) (e : opC b n a = nI k) (h : k < 6) (h2 : ¬ W 6 = 8) : oneC b n W a f = tplC b n (nI k) W (opA b n a) f := by
  unfold oneC
  rw [if_neg (fun z => z.elim (fun y => nI_ne3 (by omega) (e.symm.trans y)) (fun y => h2 y.2)), if_pos (by rw [e]; exact (lt6 hk).mpr h), e]
theorem one_10 {b : Nat → Int32} {n : Nat} {W : Nat → Int32} {a : Nat} {f : Int32} (e : opC b n a = nI 10) : oneC b n W a f = on1 b n W (opA b n a) f := by
  have h6 : ¬ opC b n a < 6 := by rw [e]; decide
  unfold oneC
  rw [if_neg (fun z => z.elim (fun y => nI_ne3 (by omega) (e.symm.trans y)) (fun y => h6 y.1)), if_neg h6, if_pos (show opC b n a = 10 from e)]
theorem one_l {b : Nat → Int32} {n k : Nat} {W : Nat → Int32} {a : Nat} {f : Int32} (hk : k < 11) (e : opC b n a = nI k) (h : 6 ≤ k) (h2 : ¬ k = 10) : oneC b n W a f = on2 b n (k - 6) W (opA b n a) f := by
  have h6 : ¬ opC b n a < 6 := by rw [e, lt6 hk]; omega
  unfold oneC
  rw [if_neg (fun z => z.elim (fun y => nI_ne3 (by omega) (e.symm.trans y)) (fun y => h6 y.1)), if_neg h6, if_neg (show ¬ opC b n a = 10 from fun z => h2 ((nI_eq (b := 10) (by omega) (by omega)).mp (e.symm.trans z))), e, cl_nI (by omega)]
set_option maxRecDepth 20000 in
set_option maxHeartbeats 1000000 in
theorem s_X8_tellOne (g : pG) {M : Nat → Nat → Int32} {n : Nat} (hn : n ≤ 200) (en : M 29 1 = nI n) {a : Nat} (ha : a ≤ n) (f : Int32) (hI : InvR (vw (Gs M) 10)) : MS g mX8_tellOne 7 0 0 [.ref 29, .ref 10] (Gs (tcS M (a) (f))) (eV (tcP M (oneC (M 30) n (vw (Gs M) 10) a f))) := by
  obtain ⟨h8, hpl⟩ := hI.pl
  refine MS.of pn_X8 (Nat.le_of_ble_eq_true rfl) ?_
  refine r_aload_n dX8_tellOne_0 rfl rfl ?_
  refine r_getI dX8_tellOne_1 (ci := 8) (kf := 2) rfl (Nat.le_of_ble_eq_true rfl) (by decide) (by decide) rfl fl_X8_24 (Or.inl rfl) ?_
  rw [tc_a]
  refine r_istore_n dX8_tellOne_4 rfl (by decide) ?_
  refine r_aload_n dX8_tellOne_5 rfl rfl ?_
  refine r_callV_dI (ci := 8) dX8_tellOne_6 (s_X8_passOpeningName g hn en ha _) mf_X8_passOpeningName mi_X8_passOpeningName se_X8_X8_X8_passOpeningName ml_X8_40 rfl rfl (Nat.le_of_ble_eq_true rfl) rfl (by decide) rfl (Nat.le_of_ble_eq_true rfl) ⟨(Nat.le_of_ble_eq_true rfl), (Nat.le_of_ble_eq_true rfl)⟩ ⟨(Nat.le_of_ble_eq_true rfl), (Nat.le_of_ble_eq_true rfl)⟩ ?_
  refine r_istore_n dX8_tellOne_9 rfl (by decide) ?_
  refine r_iload_n dX8_tellOne_10 rfl rfl ?_
  refine r_bipush (v := (-3)) dX8_tellOne_11 (by decide) ?_
  refine r_icmp_eq (tgt := 31) dX8_tellOne_13 (by decide) (fun c_13 => ?_) (fun c_13 => ?_)
  · (try dsimp only [Gs_M] at c_13)
    refine r_aload_n dX8_tellOne_31 rfl rfl ?_
    refine r_iload_n dX8_tellOne_32 rfl rfl ?_
    refine r_callV_dV (ci := 8) dX8_tellOne_33 (s_X8_fail g _ _) mf_X8_fail mi_X8_fail se_X8_X8_X8_fail ml_X8_47 rfl rfl (Nat.le_of_ble_eq_true rfl) rfl (by decide) rfl (Nat.le_of_ble_eq_true rfl) ⟨(Nat.le_of_ble_eq_true rfl), (Nat.le_of_ble_eq_true rfl)⟩ ⟨(Nat.le_of_ble_eq_true rfl), (Nat.le_of_ble_eq_true rfl)⟩ ?_
    refine r_goto (tgt := 105) dX8_tellOne_36 (by decide) ?_
    refine r_vret dX8_tellOne_105 rfl (Nat.le_refl _) ?_
    (try dsimp only [Gs_M])
    refine ⟨rfl, M, ?_, fr.rf, ?_, rfl, rfl⟩
    · rw [one_0 c_13]
    · rw [one_0 c_13]
  · (try dsimp only [Gs_M] at c_13)
    obtain ⟨k, hk, ek⟩ := (opC_or (b := M 30) (n := n) (a := a) 11 (Nat.le_refl _)).resolve_left c_13
    have ek : opC (M 30) n a = nI k := ek
    rw [ek]
    refine r_iload_n dX8_tellOne_16 rfl rfl ?_
    refine r_bipush (v := 6) dX8_tellOne_17 (by decide) ?_
    refine r_icmp_geN (k) (6) (tgt := 39) dX8_tellOne_19 (by decide) (by omega) (by omega) (fun c_19 => ?_) (fun c_19 => ?_)
    · (try dsimp only [Gs_M] at c_19)
      refine r_iload_n dX8_tellOne_39 rfl rfl ?_
      refine r_bipush (v := 6) dX8_tellOne_40 (by decide) ?_
      refine r_icmp_geN (k) (6) (tgt := 54) dX8_tellOne_42 (by decide) (by omega) (by omega) (fun c_42 => ?_) (fun c_42 => ?_)
      · (try dsimp only [Gs_M] at c_42)
        refine r_iload_n dX8_tellOne_54 rfl rfl ?_
        refine r_bipush (v := 10) dX8_tellOne_55 (by decide) ?_
        refine r_icmp_neN (k) (10) (tgt := 84) dX8_tellOne_57 (by decide) (by omega) (by omega) (fun c_57 => ?_) (fun c_57 => ?_)
        · (try dsimp only [Gs_M] at c_57)
          refine r_aload_n dX8_tellOne_84 rfl rfl ?_
          refine r_getR (q := (10 + 1)) dX8_tellOne_85 (ci := 0) (kf := 0) rfl (Nat.le_of_ble_eq_true rfl) (by decide) (by decide) rfl fl_X8_63 (Or.inl rfl) (CoG (Or.inr (Or.inl rfl))).2.2.2.1 ?_
          refine r_iload_n dX8_tellOne_88 rfl rfl ?_
          refine r_bipush (v := 6) dX8_tellOne_89 (by decide) ?_
          refine r_isubN (k) (6) dX8_tellOne_91 (by omega) ?_
          refine r_aload_n dX8_tellOne_92 rfl rfl ?_
          refine r_getsN (k0 := 1) (by decide) dX8_tellOne_93 (by decide) ?_
          refine r_iload_n dX8_tellOne_96 rfl rfl ?_
          refine r_bipush (v := 6) dX8_tellOne_97 (by decide) ?_
          refine r_isubN (k) (6) dX8_tellOne_99 (by omega) ?_
          refine r_taldN (k0 := 1) (j := (k - 6)) (by decide) rfl (by show _ < 4; omega) dX8_tellOne_100 ?_
          refine r_callV_dI (ci := 8) dX8_tellOne_101 (s_X8_passNumber g hn en (opA_le ha) _ _) mf_X8_passNumber mi_X8_passNumber se_X8_X8_X8_passNumber ml_X8_55 rfl rfl (Nat.le_of_ble_eq_true rfl) rfl (by decide) rfl (Nat.le_of_ble_eq_true rfl) ⟨(Nat.le_of_ble_eq_true rfl), (Nat.le_of_ble_eq_true rfl)⟩ ⟨(Nat.le_of_ble_eq_true rfl), (Nat.le_of_ble_eq_true rfl)⟩ ?_
          have hon : on2 (M 30) n (k - 6) (vw (Gs M) 10) (opA (M 30) n a) f = on2 (M 30) n (k - 6) (vw (Gs M) 10) (opA (M 30) n a) f := rfl
          conv at hon => rhs; unfold on2
          obtain ⟨v2, ev2⟩ : ∃ X, nuV (M 30) n (opA (M 30) n a) (kF 1 (k - 6)) = X := ⟨_, rfl⟩
          obtain ⟨a4, ea4⟩ : ∃ X, nuA (M 30) n (opA (M 30) n a) (kF 1 (k - 6)) = X := ⟨_, rfl⟩
          obtain ⟨f4, ef4⟩ : ∃ X, nuF (M 30) n (opA (M 30) n a) (kF 1 (k - 6)) f = X := ⟨_, rfl⟩
          rw [ev2, ea4, ef4] at hon
          rw [ev2, ea4, ef4]
          refine r_iast (j := (k - 6)) dX8_tellOne_104 (CoG (Or.inr (Or.inl rfl))).2.2.1.1 (Co_la1 (CoG (Or.inr (Or.inl rfl)))) rfl (by omega) (by decide) ?_
          refine r_vret dX8_tellOne_105 rfl (Nat.le_refl _) ?_
          (try dsimp only [Gs_M])
          obtain ⟨M2, eS, hf2, hv2, e302, e292⟩ := tc_co (M := M) (S1 := mSet (Gs (tcS M a4 f4)) (10 + 1) (k - 6) v2) ⟨rfl, rfl, rfl⟩ (fr.rf.set (by decide))
          refine ⟨rfl, M2, ?_, hf2, ?_, e302, e292⟩
          · rw [one_l hk ek (by omega) c_57, hon]
            exact eS
          · rw [one_l hk ek (by omega) c_57, hon, hv2, vs_l (by omega), vw_tc (by omega)]
        · (try dsimp only [Gs_M] at c_57)
          refine r_aload_n dX8_tellOne_60 rfl rfl ?_
          refine r_bipush (v := 7) dX8_tellOne_61 (by decide) ?_
          refine r_callV_dI (ci := 8) dX8_tellOne_63 (s_X8_passNumber g hn en (opA_le ha) _ 7) mf_X8_passNumber mi_X8_passNumber se_X8_X8_X8_passNumber ml_X8_55 rfl rfl (Nat.le_of_ble_eq_true rfl) rfl (by decide) rfl (Nat.le_of_ble_eq_true rfl) ⟨(Nat.le_of_ble_eq_true rfl), (Nat.le_of_ble_eq_true rfl)⟩ ⟨(Nat.le_of_ble_eq_true rfl), (Nat.le_of_ble_eq_true rfl)⟩ ?_
          obtain ⟨j, hj, ej⟩ := nuV_r (b := M 30) (n := n) (a := opA (M 30) n a) (k := 7) (m := 7) (opA_le ha) (by decide)
          have ha2 := nuA_le (b := M 30) (m := 7) (opA_le (b := M 30) ha)
          rw [ej]
          refine r_istore dX8_tellOne_66 (by decide) ?_
          refine r_aload_n dX8_tellOne_68 rfl rfl ?_
          refine r_getR (q := (10 + 2)) dX8_tellOne_69 (ci := 0) (kf := 1) rfl (Nat.le_of_ble_eq_true rfl) (by decide) (by decide) rfl fl_X8_59 (Or.inl rfl) (CoG (Or.inr (Or.inl rfl))).2.2.2.2.1 ?_
          refine r_iload dX8_tellOne_72 rfl ?_
          refine r_aload_n dX8_tellOne_74 rfl rfl ?_
          refine r_bipush (v := 9) dX8_tellOne_75 (by decide) ?_
          refine r_callV_dI (ci := 8) dX8_tellOne_77 (s_X8_passNumber g hn en ha2 _ 9) mf_X8_passNumber mi_X8_passNumber se_X8_X8_X8_passNumber ml_X8_55 rfl rfl (Nat.le_of_ble_eq_true rfl) rfl (by decide) rfl (Nat.le_of_ble_eq_true rfl) ⟨(Nat.le_of_ble_eq_true rfl), (Nat.le_of_ble_eq_true rfl)⟩ ⟨(Nat.le_of_ble_eq_true rfl), (Nat.le_of_ble_eq_true rfl)⟩ ?_
          have hon : on1 (M 30) n (vw (Gs M) 10) (opA (M 30) n a) f = on1 (M 30) n (vw (Gs M) 10) (opA (M 30) n a) f := rfl
          conv at hon => rhs; unfold on1
          rw [ej, cl_nI (by omega)] at hon
          obtain ⟨v2, ev2⟩ : ∃ X, nuV (M 30) n (nuA (M 30) n (opA (M 30) n a) 7) 9 = X := ⟨_, rfl⟩
          obtain ⟨a4, ea4⟩ : ∃ X, nuA (M 30) n (nuA (M 30) n (opA (M 30) n a) 7) 9 = X := ⟨_, rfl⟩
          obtain ⟨f4, ef4⟩ : ∃ X, nuF (M 30) n (nuA (M 30) n (opA (M 30) n a) 7) 9 (nuF (M 30) n (opA (M 30) n a) 7 f) = X := ⟨_, rfl⟩
          rw [ev2, ea4, ef4] at hon
          rw [ev2, ea4, ef4]
          refine r_iast (j := j) dX8_tellOne_80 (CoG (Or.inr (Or.inl rfl))).2.2.1.2.1 (Co_la2 (CoG (Or.inr (Or.inl rfl)))) rfl (by omega) (by decide) ?_
          refine r_goto (tgt := 105) dX8_tellOne_81 (by decide) ?_
          refine r_vret dX8_tellOne_105 rfl (Nat.le_refl _) ?_
          (try dsimp only [Gs_M])
          have ekk : k = 10 := by omega
          subst ekk
          obtain ⟨M2, eS, hf2, hv2, e302, e292⟩ := tc_co (M := M) (S1 := mSet (Gs (tcS M a4 f4)) (10 + 2) j v2) ⟨rfl, rfl, rfl⟩ (fr.rf.set (by decide))
          refine ⟨rfl, M2, ?_, hf2, ?_, e302, e292⟩
          · rw [one_10 ek, hon]
            exact eS
          · rw [one_10 ek, hon, hv2, vs_w (by omega), vw_tc (by omega)]
      · (try dsimp only [Gs_M] at c_42)
        exact absurd c_42 (by omega)
    · (try dsimp only [Gs_M] at c_19)
      refine r_aload_n dX8_tellOne_22 rfl rfl ?_
      refine r_getI dX8_tellOne_23 (ci := 0) (kf := 6) rfl (Nat.le_of_ble_eq_true rfl) (by decide) (by decide) rfl fl_X8_44 (Or.inl rfl) ?_
      refine r_bipush (v := 8) dX8_tellOne_26 (by decide) ?_
      refine r_icmp_ne (tgt := 39) dX8_tellOne_28 (by decide) (fun c_28 => ?_) (fun c_28 => ?_)
      · (try dsimp only [Gs_M] at c_28)
        refine r_iload_n dX8_tellOne_39 rfl rfl ?_
        refine r_bipush (v := 6) dX8_tellOne_40 (by decide) ?_
        refine r_icmp_geN (k) (6) (tgt := 54) dX8_tellOne_42 (by decide) (by omega) (by omega) (fun c_42 => ?_) (fun c_42 => ?_)
        · (try dsimp only [Gs_M] at c_42)
          exact absurd c_42 (by omega)
        · (try dsimp only [Gs_M] at c_42)
          refine r_aload_n dX8_tellOne_45 rfl rfl ?_
          refine r_aload_n dX8_tellOne_46 rfl rfl ?_
          refine r_iload_n dX8_tellOne_47 rfl rfl ?_
          refine r_callV_eV (ci := 8) dX8_tellOne_48 (s_X8_tellPlayer g hn en (opA_le ha) _ hI (show ¬ vw (Gs M) 10 6 = 8 from c_28) _) mf_X8_tellPlayer mi_X8_tellPlayer se_X8_X8_X8_tellPlayer ml_X8_51 rfl rfl (Nat.le_of_ble_eq_true rfl) rfl (by decide) rfl (Nat.le_of_ble_eq_true rfl) ⟨(Nat.le_of_ble_eq_true rfl), (Nat.le_of_ble_eq_true rfl)⟩ ⟨(Nat.le_of_ble_eq_true rfl), (Nat.le_of_ble_eq_true rfl)⟩ (fun S_48 q_48 z_48 => ?_)
          refine r_goto (tgt := 105) dX8_tellOne_51 (by decide) ?_
          refine r_vret dX8_tellOne_105 rfl (Nat.le_refl _) ?_
          (try dsimp only [Gs_M])
          rw [one_k (W := vw (Gs M) 10) hk ek (by omega) c_28]
          exact ⟨rfl, q_48⟩
      · (try dsimp only [Gs_M] at c_28)
        refine r_aload_n dX8_tellOne_31 rfl rfl ?_
        refine r_iload_n dX8_tellOne_32 rfl rfl ?_
        refine r_callV_dV (ci := 8) dX8_tellOne_33 (s_X8_fail g _ _) mf_X8_fail mi_X8_fail se_X8_X8_X8_fail ml_X8_47 rfl rfl (Nat.le_of_ble_eq_true rfl) rfl (by decide) rfl (Nat.le_of_ble_eq_true rfl) ⟨(Nat.le_of_ble_eq_true rfl), (Nat.le_of_ble_eq_true rfl)⟩ ⟨(Nat.le_of_ble_eq_true rfl), (Nat.le_of_ble_eq_true rfl)⟩ ?_
        refine r_goto (tgt := 105) dX8_tellOne_36 (by decide) ?_
        refine r_vret dX8_tellOne_105 rfl (Nat.le_refl _) ?_
        (try dsimp only [Gs_M])
        have c8 : vw (Gs M) 10 6 = 8 := c_28
        refine ⟨rfl, M, ?_, fr.rf, ?_, rfl, rfl⟩
        · rw [one_8 hk ek c_19 c8]
        · rw [one_8 hk ek c_19 c8]
