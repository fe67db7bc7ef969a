def ftR (ok : Nat → Bool) : Nat → Int32 × Int32
  | 0 => (0, -3)
  | j + 1 => ((ftR ok j).1 + (if ok (99 - j) = true then 1 else 0), if ok (99 - j) = true then nI (99 - j) else (ftR ok j).2)
theorem ftR_y {ok : Nat → Bool} {j : Nat} {c : Int32} (hc : c = (ftR ok j).1) (h : ok (99 - j) = true) : c + 1 = (ftR ok (j + 1)).1 ∧ nI (99 - j) = (ftR ok (j + 1)).2 := by
  rw [ftR]; dsimp only; rw [if_pos h, if_pos h, hc]; exact ⟨rfl, rfl⟩
theorem ftR_n {ok : Nat → Bool} {j : Nat} {c l : Int32} (hc : c = (ftR ok j).1) (hl : l = (ftR ok j).2) (h : ¬ ok (99 - j) = true) : c + 0 = (ftR ok (j + 1)).1 ∧ l = (ftR ok (j + 1)).2 := by
  rw [ftR]; dsimp only; rw [if_neg h, if_neg h, hc]; exact ⟨rfl, hl⟩
def fitsX (W so sz it : Nat → Int32) (a x w : Int32) : Int32 := if (0 ≤ a ∧ a ≤ 3) ∧ (0 ≤ x ∧ x ≤ W 6 - 1) ∧ 0 ≤ w ∧ w ≤ 1 then (if so (cl a) < 0 then -11 else if w = 0 then (ftR (fitB W (cl x) (fun i => it (40 * cl a + i)) (cl (sz (cl a)))) 100).1 else (ftR (fitB W (cl x) (fun i => it (40 * cl a + i)) (cl (sz (cl a)))) 100).2) else -1
def ShI (S : pS) : Prop := ∀ j, j < 4 → ∃ n, n ≤ 40 ∧ S.2.2.2 66 j = nI n
theorem down_neg {j : Nat} {x : Int32} (h : (j ≤ 99 ∧ x = nI (99 - j)) ∨ (j = 100 ∧ x = -1)) (hx : x < 0) : j = 100 := by
  rcases h with ⟨h, e⟩ | ⟨h, e⟩
  · exact absurd (e ▸ hx) (nI_pos (by omega))
  · exact h
theorem down_pos {j : Nat} {x : Int32} (h : (j ≤ 99 ∧ x = nI (99 - j)) ∨ (j = 100 ∧ x = -1)) (hx : ¬ x < 0) : j ≤ 99 ∧ x = nI (99 - j) := by
  rcases h with h | ⟨_, e⟩
  · exact h
  · exact absurd (by rw [e]; decide) hx
theorem down_st {j : Nat} (h : j ≤ 99) : (j + 1 ≤ 99 ∧ nI (99 - j) + (-1) = nI (99 - (j + 1))) ∨ (j + 1 = 100 ∧ nI (99 - j) + (-1) = -1) := by
  rcases Nat.lt_or_ge j 99 with h2 | h2
  · refine Or.inl ⟨by omega, ?_⟩
    rw [show 99 - j = (99 - (j + 1)) + 1 by omega]
    exact pk_m1 _
  · have : j = 99 := by omega
    subst this
    exact Or.inr ⟨rfl, by decide⟩
set_option maxRecDepth 20000 in
set_option maxHeartbeats 1000000 in
theorem s_X12_fits (g : pG) {S : pS} (hS : sOk S) (hI : InvR (S.2.2.2 55)) (hZ : ShI S) (a x w : Int32) : MS g mX12_fits 8 0 0 [.ref 54, .int a, .int x, .int w] (S) (eI (fun rx S1 => rx = fitsX ((S).2.2.2 55) ((S).2.2.2 65) ((S).2.2.2 66) ((S).2.2.2 67) a x w ∧ kp [57, 59, 60] (S) S1)) := by
  obtain ⟨M0, rfl⟩ := sOk_gs hS
  have hI : InvR (M0 55) := hI
  obtain ⟨h8, hpl⟩ := hI.pl
  have h8 : plR (M0 55) ≤ 8 := h8
  have hpl : M0 55 6 = nI (plR (M0 55)) := hpl
  refine MS.of pn_X12 (Nat.le_of_ble_eq_true rfl) ?_
  refine r_iload_n dX12_fits_0 rfl rfl ?_
  refine r_callS_dI dX12_fits_1 (s_X12_isSheet g _ _) mf_X12_isSheet mt_X12_isSheet ml_X12_230 rfl rfl (Nat.le_of_ble_eq_true rfl) ⟨(Nat.le_of_ble_eq_true rfl), (Nat.le_of_ble_eq_true rfl)⟩ ⟨(Nat.le_of_ble_eq_true rfl), (Nat.le_of_ble_eq_true rfl)⟩ ?_
  refine r_if_eq (tgt := 24) dX12_fits_4 (by decide) (fun c_4 => ?_) (fun c_4 => ?_)
  · have c_4 := bI_0 c_4
    (try dsimp only [Gs_M] at c_4)
    refine r_iconst (v := (-1)) dX12_fits_24 (by decide) ?_
    refine r_iret dX12_fits_25 rfl (Nat.le_refl _) ?_
    (try dsimp only [Gs_M])
    refine ⟨_, rfl, ?_, kp.rf hS⟩
    rw [fitsX, if_neg (fun z => c_4 z.1)]
  · have c_4 := bI_n c_4
    (try dsimp only [Gs_M] at c_4)
    refine r_aload_n dX12_fits_7 rfl rfl ?_
    refine r_iload_n dX12_fits_8 rfl rfl ?_
    refine r_callV_dI (ci := 12) dX12_fits_9 (s_X12_isPlayer g (by exact ⟨rfl, rfl, rfl⟩) _) mf_X12_isPlayer mi_X12_isPlayer se_X12_X12_X12_isPlayer ml_X12_188 rfl rfl (Nat.le_of_ble_eq_true rfl) rfl (by decide) rfl (Nat.le_of_ble_eq_true rfl) ⟨(Nat.le_of_ble_eq_true rfl), (Nat.le_of_ble_eq_true rfl)⟩ ⟨(Nat.le_of_ble_eq_true rfl), (Nat.le_of_ble_eq_true rfl)⟩ ?_
    refine r_if_eq (tgt := 24) dX12_fits_12 (by decide) (fun c_12 => ?_) (fun c_12 => ?_)
    · have c_12 := bI_0 c_12
      (try dsimp only [Gs_M] at c_12)
      refine r_iconst (v := (-1)) dX12_fits_24 (by decide) ?_
      refine r_iret dX12_fits_25 rfl (Nat.le_refl _) ?_
      (try dsimp only [Gs_M])
      refine ⟨_, rfl, ?_, kp.rf hS⟩
      rw [fitsX, if_neg (fun z => c_12 z.2.1)]
    · have c_12 := bI_n c_12
      (try dsimp only [Gs_M] at c_12)
      refine r_iload_n dX12_fits_15 rfl rfl ?_
      refine r_iconst (v := 0) dX12_fits_16 (by decide) ?_
      refine r_iconst (v := 1) dX12_fits_17 (by decide) ?_
      refine r_callS_dI dX12_fits_18 (s_X12_in1 g _ _ _ _) mf_X12_in1 mt_X12_in1 ml_X12_63 rfl rfl (Nat.le_of_ble_eq_true rfl) ⟨(Nat.le_of_ble_eq_true rfl), (Nat.le_of_ble_eq_true rfl)⟩ ⟨(Nat.le_of_ble_eq_true rfl), (Nat.le_of_ble_eq_true rfl)⟩ ?_
      refine r_if_ne (tgt := 26) dX12_fits_21 (by decide) (fun c_21 => ?_) (fun c_21 => ?_)
      · have c_21 := bI_n c_21
        (try dsimp only [Gs_M] at c_21)
        obtain ⟨ja, hja, rfl⟩ := rng (x := a) 3 (by decide) c_4
        obtain ⟨n, hn, esz⟩ := hZ ja (by omega)
        have esz : M0 66 ja = nI n := esz
        refine r_aload_n dX12_fits_26 rfl rfl ?_
        refine r_getR (q := 65) dX12_fits_27 (ci := 12) (kf := 18) rfl (Nat.le_of_ble_eq_true rfl) (by decide) (by decide) rfl fl_X12_41 (Or.inl rfl) rfl ?_
        refine r_iload_n dX12_fits_30 rfl rfl ?_
        refine r_iald (j := ja) dX12_fits_31 rfl (Nat.le_of_ble_eq_true rfl) rfl (by omega) (by decide) ?_
        refine r_if_ge (tgt := 38) dX12_fits_32 (by decide) (fun c_32 => ?_) (fun c_32 => ?_)
        · (try dsimp only [Gs_M] at c_32)
          obtain ⟨k, hk, rfl⟩ := rngP (x := x) c_12 h8 hpl
          have hk8 : k < 8 := by omega
          refine r_aload_n dX12_fits_38 rfl rfl ?_
          refine r_getR (q := 55) dX12_fits_39 (ci := 12) (kf := 0) rfl (Nat.le_of_ble_eq_true rfl) (by decide) (by decide) rfl fl_X12_9 (Or.inl rfl) rfl ?_
          refine r_aload_n dX12_fits_42 rfl rfl ?_
          refine r_getR (q := 57) dX12_fits_43 (ci := 12) (kf := 2) rfl (Nat.le_of_ble_eq_true rfl) (by decide) (by decide) rfl fl_X12_16 (Or.inl rfl) rfl ?_
          refine r_callS_eV dX12_fits_46 (c_X12_copies g hS) mf_X12_copies mt_X12_copies ml_X12_169 rfl rfl (Nat.le_of_ble_eq_true rfl) ⟨(Nat.le_of_ble_eq_true rfl), (Nat.le_of_ble_eq_true rfl)⟩ ⟨(Nat.le_of_ble_eq_true rfl), (Nat.le_of_ble_eq_true rfl)⟩ (fun S_46 q_46 z_46 => ?_)
          obtain ⟨ka, l57⟩ := q_46
          obtain ⟨Ma, rfl⟩ := sOk_gs ka.1
          have a55 : Ma 55 = M0 55 := ka.2.1 55 (by decide) (by decide)
          have a57 : Ma 57 = ovr (M0 55) (M0 57) := l57
          have hIa : InvR (Ma 55) := a55 ▸ hI
          refine r_iconst (v := 0) dX12_fits_49 (by decide) ?_
          refine r_istore dX12_fits_50 (by decide) ?_
          refine r_bipush (v := (-3)) dX12_fits_52 (by decide) ?_
          refine r_istore dX12_fits_54 (by decide) ?_
          refine r_bipush (v := 99) dX12_fits_56 (by decide) ?_
          refine r_istore dX12_fits_58 (by decide) ?_
          have lp : ∀ (j_ : Nat) (j : Nat) (c l x : Int32) (S1 : pS) (hk : kp [57, 59, 60] (Gs M0) S1) (h57 : S1.2.2.2 57 = ovr (M0 55) (M0 57)) (hc : c = (ftR (fitB (M0 55) k (fun i => M0 67 (40 * ja + i)) n) j).1) (hl : l = (ftR (fitB (M0 55) k (fun i => M0 67 (40 * ja + i)) n) j).2) (hx : (j ≤ 99 ∧ x = nI (99 - j)) ∨ (j = 100 ∧ x = -1)), 101 - j < j_ → PW g mX12_fits (eN g (Gs M0).1 8 0 0 (eI (fun rx S1 => rx = fitsX ((Gs M0).2.2.2 55) ((Gs M0).2.2.2 65) ((Gs M0).2.2.2 66) ((Gs M0).2.2.2 67) (nI ja) (nI k) w ∧ kp [57, 59, 60] (Gs M0) S1))) 60 [some (.ref 54), some (.int (nI ja)), some (.int (nI k)), some (.int w), some (.int c), some (.int l), some (.int x), none] [] (S1) 0 0 := by
            intro j_
            induction j_ with
            | zero => intro j c l x S1 hk h57 hc hl hx hj; exact absurd hj (Nat.not_lt_zero _)
            | succ j_ ih =>
              intro j c l x S1 hk h57 hc hl hx hj
              obtain ⟨M, rfl⟩ := sOk_gs hk.1
              have b55 : M 55 = M0 55 := hk.2.1 55 (by decide) (by decide)
              have b57 : M 57 = ovr (M0 55) (M0 57) := h57
              have b66 : M 66 ja = nI n := (congrFun (hk.2.1 66 (by decide) (by decide)) ja).trans esz
              have b67 : M 67 = M0 67 := hk.2.1 67 (by decide) (by decide)
              refine r_iload dX12_fits_60 rfl ?_
              refine r_if_lt (tgt := 110) dX12_fits_62 (by decide) (fun c_62 => ?_) (fun c_62 => ?_)
              · (try dsimp only [Gs_M] at c_62)
                refine r_iload_n dX12_fits_110 rfl rfl ?_
                refine r_if_ne (tgt := 119) dX12_fits_111 (by decide) (fun c_111 => ?_) (fun c_111 => ?_)
                · (try dsimp only [Gs_M] at c_111)
                  refine r_iload dX12_fits_119 rfl ?_
                  refine r_iret dX12_fits_121 rfl (Nat.le_refl _) ?_
                  (try dsimp only [Gs_M])
                  have ej : j = 100 := down_neg hx c_62
                  refine ⟨_, rfl, ?_, hk⟩
                  rw [fitsX, if_pos ⟨c_4, c_12, c_21⟩, cl_nI (by omega), cl_nI (by omega), if_neg (Int32.not_lt.mpr c_32), if_neg c_111, show M0 66 ja = _ from esz, cl_nI (by omega), ← ej]
                  exact hl
                · (try dsimp only [Gs_M] at c_111)
                  refine r_iload dX12_fits_114 rfl ?_
                  refine r_goto (tgt := 121) dX12_fits_116 (by decide) ?_
                  refine r_iret dX12_fits_121 rfl (Nat.le_refl _) ?_
                  (try dsimp only [Gs_M])
                  have ej : j = 100 := down_neg hx c_62
                  refine ⟨_, rfl, ?_, hk⟩
                  rw [fitsX, if_pos ⟨c_4, c_12, c_21⟩, cl_nI (by omega), cl_nI (by omega), if_neg (Int32.not_lt.mpr c_32), if_pos c_111, show M0 66 ja = _ from esz, cl_nI (by omega), ← ej]
                  exact hc
              · (try dsimp only [Gs_M] at c_62)
                obtain ⟨h99, rfl⟩ := down_pos hx c_62
                refine r_aload_n dX12_fits_65 rfl rfl ?_
                refine r_iload_n dX12_fits_66 rfl rfl ?_
                refine r_iload_n dX12_fits_67 rfl rfl ?_
                refine r_iload dX12_fits_68 rfl ?_
                refine r_callV_eI (ci := 12) dX12_fits_70 (s_X12_fitsWith g hk.1 (by show InvR (M 55); rw [b55]; exact hI) b57 (fun x hx => congrFun b55 x) (ja) (k) ((99 - j)) n (by omega) (by omega) hn b66) mf_X12_fitsWith mi_X12_fitsWith se_X12_X12_X12_fitsWith ml_X12_233 rfl rfl (Nat.le_of_ble_eq_true rfl) rfl (by decide) rfl (Nat.le_of_ble_eq_true rfl) ⟨(Nat.le_of_ble_eq_true rfl), (Nat.le_of_ble_eq_true rfl)⟩ ⟨(Nat.le_of_ble_eq_true rfl), (Nat.le_of_ble_eq_true rfl)⟩ (fun r_70 S_70 q_70 z_70 => ?_)
                obtain ⟨rfl, k70, v70⟩ := q_70
                rw [show (Gs M).2.2.2 55 = M0 55 from b55, show (Gs M).2.2.2 67 = M0 67 from b67]
                have kz : kp [57, 59, 60] (Gs M0) S_70 := kp_fix ((hk.mono (by decide)).tr (k70.mono (by decide))) v70
                have z57 : S_70.2.2.2 57 = ovr (M0 55) (M0 57) := (k70.2.1 57 (by decide) (by decide)).trans b57
                refine r_istore dX12_fits_73 (by decide) ?_
                refine r_iload dX12_fits_75 rfl ?_
                refine r_iload dX12_fits_77 rfl ?_
                refine r_if_eq (tgt := 86) dX12_fits_79 (by decide) (fun c_79 => ?_) (fun c_79 => ?_)
                · have c_79 := bI_0 c_79
                  (try dsimp only [Gs_M] at c_79)
                  refine r_iconst (v := 0) dX12_fits_86 (by decide) ?_
                  refine r_iadd dX12_fits_87 ?_
                  refine r_istore dX12_fits_88 (by decide) ?_
                  refine r_iload dX12_fits_90 rfl ?_
                  refine r_if_eq (tgt := 100) dX12_fits_92 (by decide) (fun c_92 => ?_) (fun c_92 => ?_)
                  · have c_92 := bI_0 c_92
                    (try dsimp only [Gs_M] at c_92)
                    refine r_iload dX12_fits_100 rfl ?_
                    refine r_istore dX12_fits_102 (by decide) ?_
                    refine r_iinc dX12_fits_104 rfl rfl (by decide) ?_
                    refine r_goto (tgt := 60) dX12_fits_107 (by decide) ?_
                    obtain ⟨y1, y2⟩ := ftR_n (ok := (fitB (M0 55) k (fun i => M0 67 (40 * ja + i)) n)) hc hl c_79
                    exact PW.subL (ih (j + 1) _ _ _ _ kz z57 y1 y2 (down_st h99) (by omega)) (by repeat' first | exact True.intro | refine And.intro rfl ?_)
                  · have c_92 := bI_n c_92
                    (try dsimp only [Gs_M] at c_92)
                    refine r_iload dX12_fits_95 rfl ?_
                    refine r_goto (tgt := 102) dX12_fits_97 (by decide) ?_
                    refine r_istore dX12_fits_102 (by decide) ?_
                    refine r_iinc dX12_fits_104 rfl rfl (by decide) ?_
                    refine r_goto (tgt := 60) dX12_fits_107 (by decide) ?_
                    exact absurd c_92 c_79
                · have c_79 := bI_n c_79
                  (try dsimp only [Gs_M] at c_79)
                  refine r_iconst (v := 1) dX12_fits_82 (by decide) ?_
                  refine r_goto (tgt := 87) dX12_fits_83 (by decide) ?_
                  refine r_iadd dX12_fits_87 ?_
                  refine r_istore dX12_fits_88 (by decide) ?_
                  refine r_iload dX12_fits_90 rfl ?_
                  refine r_if_eq (tgt := 100) dX12_fits_92 (by decide) (fun c_92 => ?_) (fun c_92 => ?_)
                  · have c_92 := bI_0 c_92
                    (try dsimp only [Gs_M] at c_92)
                    refine r_iload dX12_fits_100 rfl ?_
                    refine r_istore dX12_fits_102 (by decide) ?_
                    refine r_iinc dX12_fits_104 rfl rfl (by decide) ?_
                    refine r_goto (tgt := 60) dX12_fits_107 (by decide) ?_
                    exact absurd c_79 c_92
                  · have c_92 := bI_n c_92
                    (try dsimp only [Gs_M] at c_92)
                    refine r_iload dX12_fits_95 rfl ?_
                    refine r_goto (tgt := 102) dX12_fits_97 (by decide) ?_
                    refine r_istore dX12_fits_102 (by decide) ?_
                    refine r_iinc dX12_fits_104 rfl rfl (by decide) ?_
                    refine r_goto (tgt := 60) dX12_fits_107 (by decide) ?_
                    obtain ⟨y1, y2⟩ := ftR_y (ok := (fitB (M0 55) k (fun i => M0 67 (40 * ja + i)) n)) hc c_79
                    exact PW.subL (ih (j + 1) _ _ _ _ kz z57 y1 y2 (down_st h99) (by omega)) (by repeat' first | exact True.intro | refine And.intro rfl ?_)
          exact PW.subL (lp 102 0 0 (-3) 99 _ (ka.mono (by decide)) a57 rfl rfl (Or.inl ⟨by omega, rfl⟩) (by omega)) (by repeat' first | exact True.intro | refine And.intro rfl ?_)
        · (try dsimp only [Gs_M] at c_32)
          refine r_bipush (v := (-11)) dX12_fits_35 (by decide) ?_
          refine r_iret dX12_fits_37 rfl (Nat.le_refl _) ?_
          (try dsimp only [Gs_M])
          refine ⟨_, rfl, ?_, kp.rf hS⟩
          rw [fitsX, if_pos ⟨c_4, c_12, c_21⟩, cl_nI (by omega), if_pos (Int32.not_le.mp c_32)]
      · have c_21 := bI_0 c_21
        (try dsimp only [Gs_M] at c_21)
        refine r_iconst (v := (-1)) dX12_fits_24 (by decide) ?_
        refine r_iret dX12_fits_25 rfl (Nat.le_refl _) ?_
        (try dsimp only [Gs_M])
        refine ⟨_, rfl, ?_, kp.rf hS⟩
        rw [fitsX, if_neg (fun z => c_21 z.2.2)]
