theorem worstR_n {W : Nat → Int32} {k : Nat} {b m : Int32} (hb : b = (worstR W k).1) (hm : m = (worstR W k).2) (h : ¬ (W (16 + 11 * k + 2) = 0 ∧ showB (upd W (16 + 11 * k + 2) 1) < m)) : b = (worstR W (k + 1)).1 ∧ m = (worstR W (k + 1)).2 := by
  rw [worstR, if_neg (hm ▸ h)]
  exact ⟨hb, hm⟩
theorem worstR_y {W : Nat → Int32} {k : Nat} {m : Int32} (hm : m = (worstR W k).2) (h : W (16 + 11 * k + 2) = 0) (h2 : ¬ m ≤ showB (upd W (16 + 11 * k + 2) 1)) : nI k = (worstR W (k + 1)).1 ∧ showB (upd W (16 + 11 * k + 2) 1) = (worstR W (k + 1)).2 := by
  rw [worstR, if_pos ⟨h, hm ▸ Int32.not_le.mp h2⟩]
  exact ⟨rfl, rfl⟩
theorem welR_inv {W : Nat → Int32} (hI : InvR W) (set : Int32) : ∀ k, k ≤ 8 → InvR (welR W set k)
  | 0, _ => hI
  | k + 1, h => upd_inv (welR_inv hI set k (by omega)) (by omega) (fun k2 h2 => by omega)
theorem welR_hi {W : Nat → Int32} {set : Int32} {x : Nat} (hx : 104 ≤ x) : ∀ k, k ≤ 8 → welR W set k x = W x
  | 0, _ => rfl
  | k + 1, h => by rw [welR, upd_hi hx (by omega)]; exact welR_hi hx k (by omega)
theorem welR_6 {W : Nat → Int32} {set : Int32} : ∀ k, welR W set k 6 = W 6
  | 0 => rfl
  | k + 1 => by rw [welR, pk_un (by omega)]; exact welR_6 k
theorem shl_pl {p : Nat} (h : p ≤ 8) : (1 : Int32) <<< (nI p &&& 31) = nI (2 ^ p) := by
  have H : ∀ q : Fin 9, (1 : Int32) <<< (nI q.1 &&& 31) = nI (2 ^ q.1) := by decide +kernel
  exact H ⟨p, by omega⟩
theorem pow_le8 {p : Nat} (h : p ≤ 8) : 2 ^ p ≤ 256 := Nat.pow_le_pow_right (by decide) h
theorem fewR_ok {W : Nat → Int32} {v : Int32} : ∀ s, fewR W v s = -3 ∨ ∃ j, j < s ∧ fewR W v s = nI j
  | 0 => Or.inl rfl
  | s + 1 => by
    rw [fewR]
    split
    · exact Or.inr ⟨s, by omega, rfl⟩
    · rcases fewR_ok s with h | ⟨j, h1, h2⟩
      · exact Or.inl h
      · exact Or.inr ⟨j, by omega, h2⟩
theorem fewR_n {W : Nat → Int32} {v f : Int32} {s : Nat} (hf : f = fewR W v s) (h : ¬ ((nI s &&& illR W (plR W) = 0 ∧ (fewR W v s < 0 ∨ pcR 8 s < pcR 8 (cl (fewR W v s)))) ∧ v ≤ showB (welR W (nI s) (plR W)))) : f = fewR W v (s + 1) := by rw [fewR, if_neg h]; exact hf
theorem fewR_y {W : Nat → Int32} {v : Int32} {s : Nat} (h : (nI s &&& illR W (plR W) = 0 ∧ (fewR W v s < 0 ∨ pcR 8 s < pcR 8 (cl (fewR W v s)))) ∧ v ≤ showB (welR W (nI s) (plR W))) : nI s = fewR W v (s + 1) := by rw [fewR, if_pos h]
theorem spR_e {W : Nat → Int32} {i : Nat} : (spR W (i + 1)).1 = (spR W i).1 + (if showB (thrR (upd W 5 (spR W i).2)) < showB W then 1 else 0) := rfl
theorem spR_y {W : Nat → Int32} {c x : Int32} {i : Nat} (hc : c = (spR W i).1) (hx : x = showB (thrR (upd W 5 (spR W i).2))) (h : ¬ showB W ≤ x) : c + 1 = (spR W (i + 1)).1 := by rw [spR_e, hc, ← hx, if_pos (Int32.not_le.mp h)]
theorem spR_n {W : Nat → Int32} {c x : Int32} {i : Nat} (hc : c = (spR W i).1) (hx : x = showB (thrR (upd W 5 (spR W i).2))) (h : showB W ≤ x) : c + 0 = (spR W (i + 1)).1 := by rw [spR_e, hc, ← hx, if_neg (Int32.not_lt.mpr h)]
set_option maxRecDepth 20000 in
set_option maxHeartbeats 1000000 in
theorem s_X12_worst (g : pG) {S : pS} (hS : sOk S) (hI : InvR (S.2.2.2 55)) : MS g mX12_worst 6 0 0 [.ref 54] (S) (eI (fun rx S1 => rx = (worstR ((S).2.2.2 55) (plR ((S).2.2.2 55))).1 ∧ kp [57, 59, 60] (S) S1)) := by
  obtain ⟨M0, rfl⟩ := sOk_gs hS
  obtain ⟨h8, hpl⟩ := hI.pl
  have h8 : plR (M0 55) ≤ 8 := h8
  have hpl : M0 55 6 = nI (plR (M0 55)) := hpl
  refine MS.of pn_X12 (Nat.le_of_ble_eq_true rfl) ?_
  refine r_aload_n dX12_worst_0 rfl rfl ?_
  refine r_getR (q := 55) dX12_worst_1 (ci := 12) (kf := 0) rfl (Nat.le_of_ble_eq_true rfl) (by decide) (by decide) rfl fl_X12_9 (Or.inl rfl) rfl ?_
  refine r_aload_n dX12_worst_4 rfl rfl ?_
  refine r_getR (q := 57) dX12_worst_5 (ci := 12) (kf := 2) rfl (Nat.le_of_ble_eq_true rfl) (by decide) (by decide) rfl fl_X12_16 (Or.inl rfl) rfl ?_
  refine r_callS_eV dX12_worst_8 (c_X12_copies g hS) mf_X12_copies mt_X12_copies ml_X12_169 rfl rfl (Nat.le_of_ble_eq_true rfl) ⟨(Nat.le_of_ble_eq_true rfl), (Nat.le_of_ble_eq_true rfl)⟩ ⟨(Nat.le_of_ble_eq_true rfl), (Nat.le_of_ble_eq_true rfl)⟩ (fun S_8 q_8 z_8 => ?_)
  obtain ⟨ka, l57⟩ := q_8
  obtain ⟨Ma, rfl⟩ := sOk_gs ka.1
  have a55 : Ma 55 = M0 55 := ka.2.1 55 (by decide) (by decide)
  have a57 : Ma 57 = ovr (M0 55) (M0 57) := l57
  have hIa : InvR (Ma 55) := a55 ▸ hI
  refine r_bipush (v := (-3)) dX12_worst_11 (by decide) ?_
  refine r_istore_n dX12_worst_13 rfl (by decide) ?_
  refine r_aload_n dX12_worst_14 rfl rfl ?_
  refine r_callV_eI (ci := 12) dX12_worst_15 (s_X12_billShow g ka.1 hIa) mf_X12_billShow mi_X12_billShow se_X12_X12_X12_billShow ml_X12_102 rfl rfl (Nat.le_of_ble_eq_true rfl) rfl (by decide) rfl (Nat.le_of_ble_eq_true rfl) ⟨(Nat.le_of_ble_eq_true rfl), (Nat.le_of_ble_eq_true rfl)⟩ ⟨(Nat.le_of_ble_eq_true rfl), (Nat.le_of_ble_eq_true rfl)⟩ (fun r_15 S_15 q_15 z_15 => ?_)
  obtain ⟨hx15, hb15⟩ := q_15
  dsimp only [Gs_M] at hx15
  refine r_istore_n dX12_worst_18 rfl (by decide) ?_
  refine r_iconst (v := 0) dX12_worst_19 (by decide) ?_
  refine r_istore_n dX12_worst_20 rfl (by decide) ?_
  have lp : ∀ (j_ : Nat) (k : Nat) (b m : Int32) (S1 : pS) (hk : kp [57, 59, 60] (Gs M0) S1) (h57 : S1.2.2.2 57 = ovr (M0 55) (M0 57)) (hb : b = (worstR (M0 55) k).1) (hm : m = (worstR (M0 55) k).2) (hkp : k ≤ plR (M0 55)), plR (M0 55) - k < j_ → PW g mX12_worst (eN g (Gs M0).1 6 0 0 (eI (fun rx S1 => rx = (worstR ((Gs M0).2.2.2 55) (plR ((Gs M0).2.2.2 55))).1 ∧ kp [57, 59, 60] (Gs M0) S1))) 21 [some (.ref 54), some (.int b), some (.int m), some (.int (nI k)), none] [] (S1) 0 0 := by
    intro j_
    induction j_ with
    | zero => intro k b m S1 hk h57 hb hm hkp hj; exact absurd hj (Nat.not_lt_zero _)
    | succ j_ ih =>
      intro k b m S1 hk h57 hb hm hkp hj
      obtain ⟨M, rfl⟩ := sOk_gs hk.1
      have b55 : M 55 = M0 55 := hk.2.1 55 (by decide) (by decide)
      have b57 : M 57 = ovr (M0 55) (M0 57) := h57
      have b6 : M 55 6 = nI (plR (M0 55)) := by rw [b55]; exact hpl
      refine r_iload_n dX12_worst_21 rfl rfl ?_
      refine r_aload_n dX12_worst_22 rfl rfl ?_
      refine r_getR (q := 55) dX12_worst_23 (ci := 12) (kf := 0) rfl (Nat.le_of_ble_eq_true rfl) (by decide) (by decide) rfl fl_X12_9 (Or.inl rfl) rfl ?_
      refine r_bipush (v := 6) dX12_worst_26 (by decide) ?_
      refine r_iald (j := 6) dX12_worst_28 rfl (Nat.le_of_ble_eq_true rfl) rfl (by decide) (by decide) ?_
      rw [show (Gs M).2.2.2 55 6 = nI (plR (M0 55)) from b6]
      refine r_icmp_geN (k) (plR (M0 55)) (tgt := 96) dX12_worst_29 (by decide) (by omega) (by omega) (fun c_29 => ?_) (fun c_29 => ?_)
      · (try dsimp only [Gs_M] at c_29)
        refine r_iload_n dX12_worst_96 rfl rfl ?_
        refine r_iret dX12_worst_97 rfl (Nat.le_refl _) ?_
        (try dsimp only [Gs_M])
        have ek : k = plR (M0 55) := by omega
        refine ⟨_, rfl, ?_, hk⟩
        rw [hb, ek]
      · (try dsimp only [Gs_M] at c_29)
        refine r_aload_n dX12_worst_32 rfl rfl ?_
        refine r_iload_n dX12_worst_33 rfl rfl ?_
        refine r_iconst (v := 2) dX12_worst_34 (by decide) ?_
        refine r_callV_dI (ci := 12) dX12_worst_35 (s_X12_get g (by exact ⟨rfl, rfl, rfl⟩) (k) (2) (by omega) (by omega)) mf_X12_get mi_X12_get se_X12_X12_X12_get ml_X12_67 rfl rfl (Nat.le_of_ble_eq_true rfl) rfl (by decide) rfl (Nat.le_of_ble_eq_true rfl) ⟨(Nat.le_of_ble_eq_true rfl), (Nat.le_of_ble_eq_true rfl)⟩ ⟨(Nat.le_of_ble_eq_true rfl), (Nat.le_of_ble_eq_true rfl)⟩ ?_
        refine r_if_ne (tgt := 90) dX12_worst_38 (by decide) (fun c_38 => ?_) (fun c_38 => ?_)
        · (try dsimp only [Gs_M] at c_38)
          refine r_iinc (v := nI (k + 1)) dX12_worst_90 rfl (nI_1 _) (by decide) ?_
          refine r_goto (tgt := 21) dX12_worst_93 (by decide) ?_
          obtain ⟨y1, y2⟩ := worstR_n hb hm (fun z => c_38 (by rw [b55]; exact z.1))
          exact PW.subL (ih (k + 1) _ _ _ hk b57 y1 y2 (by omega) (by omega)) (by repeat' first | exact True.intro | refine And.intro rfl ?_)
        · (try dsimp only [Gs_M] at c_38)
          refine r_aload_n dX12_worst_41 rfl rfl ?_
          refine r_iload_n dX12_worst_42 rfl rfl ?_
          refine r_iconst (v := 2) dX12_worst_43 (by decide) ?_
          refine r_iconst (v := 1) dX12_worst_44 (by decide) ?_
          refine r_callV_eV (ci := 12) dX12_worst_45 (e_X12_puts g hk.1 (k) (2) (by omega) (by omega) _) mf_X12_puts mi_X12_puts se_X12_X12_X12_puts ml_X12_88 rfl rfl (Nat.le_of_ble_eq_true rfl) rfl (by decide) rfl (Nat.le_of_ble_eq_true rfl) ⟨(Nat.le_of_ble_eq_true rfl), (Nat.le_of_ble_eq_true rfl)⟩ ⟨(Nat.le_of_ble_eq_true rfl), (Nat.le_of_ble_eq_true rfl)⟩ (fun S_45 q_45 z_45 => ?_)
          obtain ⟨kp1, vp1⟩ := q_45
          obtain ⟨Mp, rfl⟩ := sOk_gs kp1.1
          have vp1 : Mp 55 = upd (M0 55) (16 + 11 * k + 2) 1 := by rw [← b55]; exact vp1
          have hIp : InvR (Mp 55) := by rw [vp1]; exact upd_inv hI (by omega) (fun k2 h => by omega)
          refine r_aload_n dX12_worst_48 rfl rfl ?_
          refine r_callV_eI (ci := 12) dX12_worst_49 (s_X12_billShow g kp1.1 hIp) mf_X12_billShow mi_X12_billShow se_X12_X12_X12_billShow ml_X12_102 rfl rfl (Nat.le_of_ble_eq_true rfl) rfl (by decide) rfl (Nat.le_of_ble_eq_true rfl) ⟨(Nat.le_of_ble_eq_true rfl), (Nat.le_of_ble_eq_true rfl)⟩ ⟨(Nat.le_of_ble_eq_true rfl), (Nat.le_of_ble_eq_true rfl)⟩ (fun r_49 S_49 q_49 z_49 => ?_)
          obtain ⟨hx49, hb49⟩ := q_49
          rw [show (Gs Mp).2.2.2 55 = _ from vp1] at hx49
          subst hx49
          obtain ⟨Mq, rfl⟩ := sOk_gs hb49.1.1
          refine r_istore dX12_worst_52 (by decide) ?_
          refine r_aload_n dX12_worst_54 rfl rfl ?_
          refine r_getR (q := 57) dX12_worst_55 (ci := 12) (kf := 2) rfl (Nat.le_of_ble_eq_true rfl) (by decide) (by decide) rfl fl_X12_16 (Or.inl rfl) rfl ?_
          refine r_aload_n dX12_worst_58 rfl rfl ?_
          refine r_getR (q := 55) dX12_worst_59 (ci := 12) (kf := 0) rfl (Nat.le_of_ble_eq_true rfl) (by decide) (by decide) rfl fl_X12_9 (Or.inl rfl) rfl ?_
          refine r_callS_eV dX12_worst_62 (c_X12_copies3 g b57 ((kp1.mono (by decide)).tr (hb49.1.mono (by decide))) (fun x hx => (congrFun (hb49.1.2.1 55 (by decide) (by decide)) x).trans (by show Mp 55 x = M0 55 x; rw [vp1]; exact upd_hi hx (by omega)))) mf_X12_copies mt_X12_copies ml_X12_169 rfl rfl (Nat.le_of_ble_eq_true rfl) ⟨(Nat.le_of_ble_eq_true rfl), (Nat.le_of_ble_eq_true rfl)⟩ ⟨(Nat.le_of_ble_eq_true rfl), (Nat.le_of_ble_eq_true rfl)⟩ (fun S_62 q_62 z_62 => ?_)
          obtain ⟨k62, v62⟩ := q_62
          have kz : kp [57, 59, 60] (Gs M0) S_62 := kp_fix ((hk.mono (by decide)).tr (k62.mono (by decide))) v62
          have z57 : S_62.2.2.2 57 = ovr (M0 55) (M0 57) := (k62.2.1 57 (by decide) (by decide)).trans b57
          refine r_iload dX12_worst_65 rfl ?_
          refine r_iload_n dX12_worst_67 rfl rfl ?_
          refine r_icmp_ge (tgt := 75) dX12_worst_68 (by decide) (fun c_68 => ?_) (fun c_68 => ?_)
          · (try dsimp only [Gs_M] at c_68)
            refine r_iload_n dX12_worst_75 rfl rfl ?_
            refine r_istore_n dX12_worst_76 rfl (by decide) ?_
            refine r_iload dX12_worst_77 rfl ?_
            refine r_iload_n dX12_worst_79 rfl rfl ?_
            refine r_icmp_ge (tgt := 88) dX12_worst_80 (by decide) (fun c_80 => ?_) (fun c_80 => ?_)
            · (try dsimp only [Gs_M] at c_80)
              refine r_iload_n dX12_worst_88 rfl rfl ?_
              refine r_istore_n dX12_worst_89 rfl (by decide) ?_
              refine r_iinc (v := nI (k + 1)) dX12_worst_90 rfl (nI_1 _) (by decide) ?_
              refine r_goto (tgt := 21) dX12_worst_93 (by decide) ?_
              obtain ⟨y1, y2⟩ := worstR_n hb hm (fun z => Int32.not_le.mpr z.2 c_68)
              exact PW.subL (ih (k + 1) _ _ _ kz z57 y1 y2 (by omega) (by omega)) (by repeat' first | exact True.intro | refine And.intro rfl ?_)
            · (try dsimp only [Gs_M] at c_80)
              refine r_iload dX12_worst_83 rfl ?_
              refine r_goto (tgt := 89) dX12_worst_85 (by decide) ?_
              refine r_istore_n dX12_worst_89 rfl (by decide) ?_
              refine r_iinc (v := nI (k + 1)) dX12_worst_90 rfl (nI_1 _) (by decide) ?_
              refine r_goto (tgt := 21) dX12_worst_93 (by decide) ?_
              exact absurd c_68 c_80
          · (try dsimp only [Gs_M] at c_68)
            refine r_iload_n dX12_worst_71 rfl rfl ?_
            refine r_goto (tgt := 76) dX12_worst_72 (by decide) ?_
            refine r_istore_n dX12_worst_76 rfl (by decide) ?_
            refine r_iload dX12_worst_77 rfl ?_
            refine r_iload_n dX12_worst_79 rfl rfl ?_
            refine r_icmp_ge (tgt := 88) dX12_worst_80 (by decide) (fun c_80 => ?_) (fun c_80 => ?_)
            · (try dsimp only [Gs_M] at c_80)
              refine r_iload_n dX12_worst_88 rfl rfl ?_
              refine r_istore_n dX12_worst_89 rfl (by decide) ?_
              refine r_iinc (v := nI (k + 1)) dX12_worst_90 rfl (nI_1 _) (by decide) ?_
              refine r_goto (tgt := 21) dX12_worst_93 (by decide) ?_
              exact absurd c_80 c_68
            · (try dsimp only [Gs_M] at c_80)
              refine r_iload dX12_worst_83 rfl ?_
              refine r_goto (tgt := 89) dX12_worst_85 (by decide) ?_
              refine r_istore_n dX12_worst_89 rfl (by decide) ?_
              refine r_iinc (v := nI (k + 1)) dX12_worst_90 rfl (nI_1 _) (by decide) ?_
              refine r_goto (tgt := 21) dX12_worst_93 (by decide) ?_
              obtain ⟨y1, y2⟩ := worstR_y hm (by rw [← b55]; exact c_38) c_68
              exact PW.subL (ih (k + 1) _ _ _ kz z57 y1 y2 (by omega) (by omega)) (by repeat' first | exact True.intro | refine And.intro rfl ?_)
  exact PW.subL (lp (plR (M0 55) + 1) 0 _ _ _ (((ka.mono (by decide)).tr (hb15.1.mono (by decide)))) ((hb15.1.2.1 57 (by decide) (by decide)).trans a57) rfl (hx15.trans (by rw [a55]; rfl)) (by omega) (by omega)) (by repeat' first | exact True.intro | refine And.intro rfl ?_)
set_option maxRecDepth 20000 in
set_option maxHeartbeats 1000000 in
theorem s_X12_enoughFor (g : pG) {S : pS} (hS : sOk S) (hI : InvR (S.2.2.2 55)) (x : Int32) (p : Int32) : MS g mX12_enoughFor 5 0 0 [.ref 54, .int x, .int p] (S) (eI (fun rx S1 => rx = enoughX ((S).2.2.2 55) x p ∧ kp [57, 59, 60] (S) S1)) := by
  obtain ⟨M0, rfl⟩ := sOk_gs hS
  refine MS.of pn_X12 (Nat.le_of_ble_eq_true rfl) ?_
  refine r_aload_n dX12_enoughFor_0 rfl rfl ?_
  refine r_iload_n dX12_enoughFor_1 rfl rfl ?_
  refine r_callV_dI (ci := 12) dX12_enoughFor_2 (s_X12_isPlayer g (by exact ⟨rfl, rfl, rfl⟩) _) mf_X12_isPlayer mi_X12_isPlayer se_X12_X12_X12_isPlayer ml_X12_188 rfl rfl (Nat.le_of_ble_eq_true rfl) rfl (by decide) rfl (Nat.le_of_ble_eq_true rfl) ⟨(Nat.le_of_ble_eq_true rfl), (Nat.le_of_ble_eq_true rfl)⟩ ⟨(Nat.le_of_ble_eq_true rfl), (Nat.le_of_ble_eq_true rfl)⟩ ?_
  refine r_if_eq (tgt := 15) dX12_enoughFor_5 (by decide) (fun c_5 => ?_) (fun c_5 => ?_)
  · have c_5 := bI_0 c_5
    (try dsimp only [Gs_M] at c_5)
    refine r_iconst (v := (-1)) dX12_enoughFor_15 (by decide) ?_
    refine r_iret dX12_enoughFor_16 rfl (Nat.le_refl _) ?_
    (try dsimp only [Gs_M])
    refine ⟨_, rfl, ?_, kp.rf hS⟩
    rw [enoughX, if_neg (fun z => c_5 z.1)]
  · have c_5 := bI_n c_5
    (try dsimp only [Gs_M] at c_5)
    refine r_iload_n dX12_enoughFor_8 rfl rfl ?_
    refine r_callS_dI dX12_enoughFor_9 (s_X12_isPart g _ _) mf_X12_isPart mt_X12_isPart ml_X12_182 rfl rfl (Nat.le_of_ble_eq_true rfl) ⟨(Nat.le_of_ble_eq_true rfl), (Nat.le_of_ble_eq_true rfl)⟩ ⟨(Nat.le_of_ble_eq_true rfl), (Nat.le_of_ble_eq_true rfl)⟩ ?_
    refine r_if_ne (tgt := 17) dX12_enoughFor_12 (by decide) (fun c_12 => ?_) (fun c_12 => ?_)
    · have c_12 := bI_n c_12
      (try dsimp only [Gs_M] at c_12)
      obtain ⟨h8, hpl⟩ := hI.pl
      have h8 : plR (M0 55) ≤ 8 := h8
      have hpl : M0 55 6 = nI (plR (M0 55)) := hpl
      obtain ⟨k, hk, rfl⟩ := rngP (x := x) c_5 h8 hpl
      obtain ⟨j, hj, rfl⟩ := rng (x := p) 7 (by decide) c_12
      have hk8 : k < 8 := by omega
      refine r_aload_n dX12_enoughFor_17 rfl rfl ?_
      refine r_getR (q := 55) dX12_enoughFor_18 (ci := 12) (kf := 0) rfl (Nat.le_of_ble_eq_true rfl) (by decide) (by decide) rfl fl_X12_9 (Or.inl rfl) rfl ?_
      refine r_aload_n dX12_enoughFor_21 rfl rfl ?_
      refine r_getR (q := 57) dX12_enoughFor_22 (ci := 12) (kf := 2) rfl (Nat.le_of_ble_eq_true rfl) (by decide) (by decide) rfl fl_X12_16 (Or.inl rfl) rfl ?_
      refine r_callS_eV dX12_enoughFor_25 (c_X12_copies g hS) mf_X12_copies mt_X12_copies ml_X12_169 rfl rfl (Nat.le_of_ble_eq_true rfl) ⟨(Nat.le_of_ble_eq_true rfl), (Nat.le_of_ble_eq_true rfl)⟩ ⟨(Nat.le_of_ble_eq_true rfl), (Nat.le_of_ble_eq_true rfl)⟩ (fun S_25 q_25 z_25 => ?_)
      obtain ⟨ka, l57⟩ := q_25
      obtain ⟨Ma, rfl⟩ := sOk_gs ka.1
      have a55 : Ma 55 = M0 55 := ka.2.1 55 (by decide) (by decide)
      have a57 : Ma 57 = ovr (M0 55) (M0 57) := l57
      have hIa : InvR (Ma 55) := a55 ▸ hI
      refine r_bipush (v := (-3)) dX12_enoughFor_28 (by decide) ?_
      refine r_istore_n dX12_enoughFor_30 rfl (by decide) ?_
      refine r_iconst (v := 0) dX12_enoughFor_31 (by decide) ?_
      refine r_istore dX12_enoughFor_32 (by decide) ?_
      have lp : ∀ (j_ : Nat) (n : Nat) (f : Int32) (S1 : pS) (hk : kp [55, 57, 59, 60] (Gs M0) S1) (h57 : S1.2.2.2 57 = ovr (M0 55) (M0 57)) (h55 : ∃ v, S1.2.2.2 55 = upd (M0 55) (16 + 11 * k + (3 + j)) v) (hf : f = fwR (fun v => decide (rol (upd (M0 55) (16 + 11 * k + (3 + j)) (nI v)) k = nI j)) n) (hn : n ≤ 100), 101 - n < j_ → PW g mX12_enoughFor (eN g (Gs M0).1 5 0 0 (eI (fun rx S1 => rx = enoughX ((Gs M0).2.2.2 55) (nI k) (nI j) ∧ kp [57, 59, 60] (Gs M0) S1))) 34 [some (.ref 54), some (.int (nI k)), some (.int (nI j)), some (.int f), some (.int (nI n))] [] (S1) 0 0 := by
        intro j_
        induction j_ with
        | zero => intro n f S1 hk h57 h55 hf hn hj; exact absurd hj (Nat.not_lt_zero _)
        | succ j_ ih =>
          intro n f S1 hk h57 h55 hf hn hj
          obtain ⟨M, rfl⟩ := sOk_gs hk.1
          obtain ⟨w, b55⟩ := h55
          have b55 : M 55 = upd (M0 55) (16 + 11 * k + (3 + j)) w := b55
          have b57 : M 57 = ovr (M0 55) (M0 57) := h57
          refine r_iload dX12_enoughFor_34 rfl ?_
          refine r_bipush (v := 99) dX12_enoughFor_36 (by decide) ?_
          refine r_icmp_gtN (n) (99) (tgt := 85) dX12_enoughFor_38 (by decide) (by omega) (by omega) (fun c_38 => ?_) (fun c_38 => ?_)
          · (try dsimp only [Gs_M] at c_38)
            refine r_aload_n dX12_enoughFor_85 rfl rfl ?_
            refine r_getR (q := 57) dX12_enoughFor_86 (ci := 12) (kf := 2) rfl (Nat.le_of_ble_eq_true rfl) (by decide) (by decide) rfl fl_X12_16 (Or.inl rfl) rfl ?_
            refine r_aload_n dX12_enoughFor_89 rfl rfl ?_
            refine r_getR (q := 55) dX12_enoughFor_90 (ci := 12) (kf := 0) rfl (Nat.le_of_ble_eq_true rfl) (by decide) (by decide) rfl fl_X12_9 (Or.inl rfl) rfl ?_
            refine r_callS_eV dX12_enoughFor_93 (c_X12_copies3 g h57 (kp.rf hk.1) (fun x hx => by show M 55 x = _; rw [b55]; exact upd_hi hx (by omega))) mf_X12_copies mt_X12_copies ml_X12_169 rfl rfl (Nat.le_of_ble_eq_true rfl) ⟨(Nat.le_of_ble_eq_true rfl), (Nat.le_of_ble_eq_true rfl)⟩ ⟨(Nat.le_of_ble_eq_true rfl), (Nat.le_of_ble_eq_true rfl)⟩ (fun S_93 q_93 z_93 => ?_)
            refine r_iload_n dX12_enoughFor_96 rfl rfl ?_
            refine r_iret dX12_enoughFor_97 rfl (Nat.le_refl _) ?_
            (try dsimp only [Gs_M])
            refine ⟨_, rfl, ?_, kp_fix ((hk.mono (by decide)).tr (q_93.1.mono (by decide))) q_93.2⟩
            rw [enoughX, if_pos ⟨c_5, c_12⟩, cl_nI (by omega), cl_nI (by omega)]
            exact hf.trans (by rw [show n = 100 by omega])
          · (try dsimp only [Gs_M] at c_38)
            refine r_iload_n dX12_enoughFor_41 rfl rfl ?_
            refine r_bipush (v := (-3)) dX12_enoughFor_42 (by decide) ?_
            refine r_icmp_ne (tgt := 85) dX12_enoughFor_44 (by decide) (fun c_44 => ?_) (fun c_44 => ?_)
            · (try dsimp only [Gs_M] at c_44)
              refine r_aload_n dX12_enoughFor_85 rfl rfl ?_
              refine r_getR (q := 57) dX12_enoughFor_86 (ci := 12) (kf := 2) rfl (Nat.le_of_ble_eq_true rfl) (by decide) (by decide) rfl fl_X12_16 (Or.inl rfl) rfl ?_
              refine r_aload_n dX12_enoughFor_89 rfl rfl ?_
              refine r_getR (q := 55) dX12_enoughFor_90 (ci := 12) (kf := 0) rfl (Nat.le_of_ble_eq_true rfl) (by decide) (by decide) rfl fl_X12_9 (Or.inl rfl) rfl ?_
              refine r_callS_eV dX12_enoughFor_93 (c_X12_copies3 g h57 (kp.rf hk.1) (fun x hx => by show M 55 x = _; rw [b55]; exact upd_hi hx (by omega))) mf_X12_copies mt_X12_copies ml_X12_169 rfl rfl (Nat.le_of_ble_eq_true rfl) ⟨(Nat.le_of_ble_eq_true rfl), (Nat.le_of_ble_eq_true rfl)⟩ ⟨(Nat.le_of_ble_eq_true rfl), (Nat.le_of_ble_eq_true rfl)⟩ (fun S_93 q_93 z_93 => ?_)
              refine r_iload_n dX12_enoughFor_96 rfl rfl ?_
              refine r_iret dX12_enoughFor_97 rfl (Nat.le_refl _) ?_
              (try dsimp only [Gs_M])
              refine ⟨_, rfl, ?_, kp_fix ((hk.mono (by decide)).tr (q_93.1.mono (by decide))) q_93.2⟩
              rw [enoughX, if_pos ⟨c_5, c_12⟩, cl_nI (by omega), cl_nI (by omega)]
              exact fwR_end hf c_44 (by omega)
            · (try dsimp only [Gs_M] at c_44)
              refine r_aload_n dX12_enoughFor_47 rfl rfl ?_
              refine r_iload_n dX12_enoughFor_48 rfl rfl ?_
              refine r_iconst (v := 3) dX12_enoughFor_49 (by decide) ?_
              refine r_iload_n dX12_enoughFor_50 rfl rfl ?_
              refine r_iaddN (3) (j) dX12_enoughFor_51 ?_
              refine r_iload dX12_enoughFor_52 rfl ?_
              refine r_callV_eV (ci := 12) dX12_enoughFor_54 (e_X12_puts g hk.1 (k) ((3 + j)) (by omega) (by omega) _) mf_X12_puts mi_X12_puts se_X12_X12_X12_puts ml_X12_88 rfl rfl (Nat.le_of_ble_eq_true rfl) rfl (by decide) rfl (Nat.le_of_ble_eq_true rfl) ⟨(Nat.le_of_ble_eq_true rfl), (Nat.le_of_ble_eq_true rfl)⟩ ⟨(Nat.le_of_ble_eq_true rfl), (Nat.le_of_ble_eq_true rfl)⟩ (fun S_54 q_54 z_54 => ?_)
              obtain ⟨kp1, vp1⟩ := q_54
              obtain ⟨Mp, rfl⟩ := sOk_gs kp1.1
              have vp1 : Mp 55 = upd (M0 55) (16 + 11 * k + (3 + j)) (nI n) := by rw [← upd_twice, ← b55]; exact vp1
              have hIp : InvR (Mp 55) := by rw [vp1]; exact upd_inv hI (by omega) (fun k2 h => by omega)
              refine r_aload_n dX12_enoughFor_57 rfl rfl ?_
              refine r_callV_eV (ci := 12) dX12_enoughFor_58 (s_X12_bills g kp1.1 hIp) mf_X12_bills mi_X12_bills se_X12_X12_X12_bills ml_X12_78 rfl rfl (Nat.le_of_ble_eq_true rfl) rfl (by decide) rfl (Nat.le_of_ble_eq_true rfl) ⟨(Nat.le_of_ble_eq_true rfl), (Nat.le_of_ble_eq_true rfl)⟩ ⟨(Nat.le_of_ble_eq_true rfl), (Nat.le_of_ble_eq_true rfl)⟩ (fun S_58 q_58 z_58 => ?_)
              obtain ⟨kb58, hc57⟩ := q_58
              obtain ⟨Mb, rfl⟩ := sOk_gs kb58.1
              have kz : kp [55, 57, 59, 60] (Gs M0) (Gs Mb) := (hk.tr (kp1.mono (by decide))).tr (kb58.mono (by decide))
              have z57 : (Gs Mb).2.2.2 57 = ovr (M0 55) (M0 57) := (kb58.2.1 57 (by decide) (by decide)).trans ((kp1.2.1 57 (by decide) (by decide)).trans b57)
              have z55 : ∃ v, (Gs Mb).2.2.2 55 = upd (M0 55) (16 + 11 * k + (3 + j)) v := ⟨_, (kb58.2.1 55 (by decide) (by decide)).trans vp1⟩
              refine r_aload_n dX12_enoughFor_61 rfl rfl ?_
              refine r_getR (q := 60) dX12_enoughFor_62 (ci := 12) (kf := 6) rfl (Nat.le_of_ble_eq_true rfl) (by decide) (by decide) rfl fl_X12_25 (Or.inl rfl) rfl ?_
              refine r_iload_n dX12_enoughFor_65 rfl rfl ?_
              refine r_iald (j := k) dX12_enoughFor_66 rfl (Nat.le_of_ble_eq_true rfl) rfl (by omega) (by decide) ?_
              refine r_iload_n dX12_enoughFor_67 rfl rfl ?_
              refine r_icmp_ne (tgt := 76) dX12_enoughFor_68 (by decide) (fun c_68 => ?_) (fun c_68 => ?_)
              · (try dsimp only [Gs_M] at c_68)
                refine r_bipush (v := (-3)) dX12_enoughFor_76 (by decide) ?_
                refine r_istore_n dX12_enoughFor_78 rfl (by decide) ?_
                refine r_iinc (v := nI (n + 1)) dX12_enoughFor_79 rfl (nI_1 _) (by decide) ?_
                refine r_goto (tgt := 34) dX12_enoughFor_82 (by decide) ?_
                have hr := (hc57 k hk8).2
                rw [show (Gs Mp).2.2.2 55 = _ from vp1] at hr
                exact PW.subL (ih (n + 1) _ _ kz z57 z55 (fwR_n (ok := (fun v => decide (rol (upd (M0 55) (16 + 11 * k + (3 + j)) (nI v)) k = nI j))) (hf.symm.trans c_44) (fun z => c_68 (hr.trans (of_decide_eq_true z)))) (by omega) (by omega)) (by repeat' first | exact True.intro | refine And.intro rfl ?_)
              · (try dsimp only [Gs_M] at c_68)
                refine r_iload dX12_enoughFor_71 rfl ?_
                refine r_goto (tgt := 78) dX12_enoughFor_73 (by decide) ?_
                refine r_istore_n dX12_enoughFor_78 rfl (by decide) ?_
                refine r_iinc (v := nI (n + 1)) dX12_enoughFor_79 rfl (nI_1 _) (by decide) ?_
                refine r_goto (tgt := 34) dX12_enoughFor_82 (by decide) ?_
                have hr := (hc57 k hk8).2
                rw [show (Gs Mp).2.2.2 55 = _ from vp1] at hr
                exact PW.subL (ih (n + 1) _ _ kz z57 z55 (fwR_y (ok := (fun v => decide (rol (upd (M0 55) (16 + 11 * k + (3 + j)) (nI v)) k = nI j))) (hf.symm.trans c_44) (decide_eq_true (hr.symm.trans c_68))) (by omega) (by omega)) (by repeat' first | exact True.intro | refine And.intro rfl ?_)
      exact PW.subL (lp 102 0 (-3) _ (ka.mono (by decide)) a57 ⟨_, a55.trans upd_self.symm⟩ rfl (by omega) (by omega)) (by repeat' first | exact True.intro | refine And.intro rfl ?_)
    · have c_12 := bI_0 c_12
      (try dsimp only [Gs_M] at c_12)
      refine r_iconst (v := (-1)) dX12_enoughFor_15 (by decide) ?_
      refine r_iret dX12_enoughFor_16 rfl (Nat.le_refl _) ?_
      (try dsimp only [Gs_M])
      refine ⟨_, rfl, ?_, kp.rf hS⟩
      rw [enoughX, if_neg (fun z => c_12 z.2)]
