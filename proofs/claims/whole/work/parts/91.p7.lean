/-! ===== fits ===== -/
theorem hm_ft {ok : Nat → Bool} : ∀ j, j ≤ 100 → hmC ok (100 - j) + (ftR ok j).1 = hmC ok 100
  | 0, _ => by rw [ftR]; exact Int32.add_zero _
  | j + 1, h => by
    rw [← hm_ft j (by omega), show 100 - j = (100 - (j + 1)) + 1 by omega, hmC, ftR, show 99 - j = 100 - (j + 1) by omega]
    dsimp only
    rw [Int32.add_assoc, Int32.add_comm (ftR ok j).1]
theorem fw_ft {ok : Nat → Bool} : ∀ j, j ≤ 100 → fwR ok 100 = if fwR ok (100 - j) = -3 then (ftR ok j).2 else fwR ok (100 - j)
  | 0, _ => by
    rw [ftR]
    by_cases c : fwR ok 100 = -3
    · rw [if_pos c]; exact c
    · rw [if_neg c]
  | j + 1, h => by
    have ih := fw_ft (ok := ok) j (by omega)
    rw [show 100 - j = (100 - (j + 1)) + 1 by omega] at ih
    rw [ih, fwR, ftR, show 99 - j = 100 - (j + 1) by omega]
    dsimp only
    generalize fwR ok (100 - (j + 1)) = a
    by_cases c : a = -3
    · by_cases o : ok (100 - (j + 1)) = true
      · rw [if_pos c, if_pos o, if_pos c, if_pos o]
        by_cases z : nI (100 - (j + 1)) = -3
        · exact absurd z (nI_ne3 (by omega))
        · rw [if_neg z]
      · rw [if_pos c, if_neg o, if_pos rfl, if_pos c, if_neg o]
    · rw [if_neg c, if_neg c, if_neg c]
theorem hm_e {ok : Nat → Bool} : hmC ok 100 = (ftR ok 100).1 := by
  have h := hm_ft (ok := ok) 100 (by omega)
  rw [← h]
  show (0 : Int32) + _ = _
  rw [Int32.zero_add]
theorem fw_e {ok : Nat → Bool} : fwR ok 100 = (ftR ok 100).2 := by
  have h := fw_ft (ok := ok) 100 (by omega)
  rw [h]
  exact if_pos rfl
theorem fitR_cg {W it it' : Nat → Int32} : ∀ n, (∀ i, i < n → it i = it' i) → fitR W it n = fitR W it' n
  | 0, _ => rfl
  | n + 1, h => by rw [fitR, fitR, fitR_cg n (fun i hi => h i (by omega)), h n (by omega)]
theorem fitB_cg {W it it' : Nat → Int32} {k n : Nat} (h : ∀ i, i < n → it i = it' i) : fitB W k it n = fitB W k it' n := funext fun v => by
  unfold fitB
  rw [fitR_cg n h]
set_option maxRecDepth 20000 in
set_option maxHeartbeats 1000000 in
theorem s_X11_fits (g : pG) {S : pS} (hS : sOk S) (hI : InvR (vw S 1)) (hN : InvN (vw S 1)) {so sz it : Nat → Int32} (hV : ShV so sz) (hR : ShR S so sz it) (a x w : Int32) : MS g mX11_fits 7 0 0 [.ref 0, .int a, .int x, .int w] (S) (eI (fun rx S1 => rx = fitsX (vw (S) 1) so sz it a x w ∧ fT LT (S) S1 ∧ sOk S1)) := by
  obtain ⟨M0, rfl⟩ := sOk_gs hS
  obtain ⟨h8, hpl⟩ := hI.pl
  refine MS.of pn_X11 (Nat.le_of_ble_eq_true rfl) ?_
  refine r_iload_n dX11_fits_0 rfl rfl ?_
  refine r_callS_dI dX11_fits_1 (s_X11_isSheet g _ _) mf_X11_isSheet mt_X11_isSheet ml_X11_237 rfl rfl (Nat.le_of_ble_eq_true rfl) ⟨(Nat.le_of_ble_eq_true rfl), (Nat.le_of_ble_eq_true rfl)⟩ ⟨(Nat.le_of_ble_eq_true rfl), (Nat.le_of_ble_eq_true rfl)⟩ ?_
  refine r_if_eq (tgt := 24) dX11_fits_4 (by decide) (fun c_4 => ?_) (fun c_4 => ?_)
  · have c_4 := bI_0 c_4
    (try dsimp only [Gs_M] at c_4)
    refine r_iconst (v := (-1)) dX11_fits_24 (by decide) ?_
    refine r_iret dX11_fits_25 rfl (Nat.le_refl _) ?_
    (try dsimp only [Gs_M])
    refine ⟨_, rfl, ?_, fT.rf, hS⟩
    rw [fitsX, if_neg (fun z => c_4 z.1)]
  · have c_4 := bI_n c_4
    (try dsimp only [Gs_M] at c_4)
    refine r_aload_n dX11_fits_7 rfl rfl ?_
    refine r_iload_n dX11_fits_8 rfl rfl ?_
    refine r_callV_dI (ci := 11) dX11_fits_9 (s_X11_isPlayer g hS hI _) mf_X11_isPlayer mi_X11_isPlayer se_X11_X11_X11_isPlayer ml_X11_150 rfl rfl (Nat.le_of_ble_eq_true rfl) rfl (by decide) rfl (Nat.le_of_ble_eq_true rfl) ⟨(Nat.le_of_ble_eq_true rfl), (Nat.le_of_ble_eq_true rfl)⟩ ⟨(Nat.le_of_ble_eq_true rfl), (Nat.le_of_ble_eq_true rfl)⟩ ?_
    refine r_if_eq (tgt := 24) dX11_fits_12 (by decide) (fun c_12 => ?_) (fun c_12 => ?_)
    · have c_12 := bI_0 c_12
      (try dsimp only [Gs_M] at c_12)
      refine r_iconst (v := (-1)) dX11_fits_24 (by decide) ?_
      refine r_iret dX11_fits_25 rfl (Nat.le_refl _) ?_
      (try dsimp only [Gs_M])
      refine ⟨_, rfl, ?_, fT.rf, hS⟩
      rw [fitsX, if_neg (fun z => c_12 z.2.1)]
    · have c_12 := bI_n c_12
      (try dsimp only [Gs_M] at c_12)
      refine r_iload_n dX11_fits_15 rfl rfl ?_
      refine r_if_lt (tgt := 24) dX11_fits_16 (by decide) (fun c_16 => ?_) (fun c_16 => ?_)
      · (try dsimp only [Gs_M] at c_16)
        refine r_iconst (v := (-1)) dX11_fits_24 (by decide) ?_
        refine r_iret dX11_fits_25 rfl (Nat.le_refl _) ?_
        (try dsimp only [Gs_M])
        refine ⟨_, rfl, ?_, fT.rf, hS⟩
        rw [fitsX, if_neg (fun z => Int32.not_lt.mpr z.2.2.1 c_16)]
      · (try dsimp only [Gs_M] at c_16)
        refine r_iload_n dX11_fits_19 rfl rfl ?_
        refine r_iconst (v := 1) dX11_fits_20 (by decide) ?_
        refine r_icmp_le (tgt := 26) dX11_fits_21 (by decide) (fun c_21 => ?_) (fun c_21 => ?_)
        · (try dsimp only [Gs_M] at c_21)
          obtain ⟨ja, hja, rfl⟩ := rng (x := a) 3 (by decide) c_4
          obtain ⟨e_so, e_sz, e_it⟩ := hR ja (by omega)
          obtain ⟨n, hn, en⟩ := (hV ja (by omega)).2
          have e_so : (Gs M0).2.2.2 (34 + 2 * ja) 0 = so ja := e_so
          have e_sz : (Gs M0).2.2.2 (34 + 2 * ja) 1 = sz ja := e_sz
          have e_sz2 : (Gs M0).2.2.2 (34 + 2 * ja) 1 = nI n := e_sz.trans en
          have e_it2 : ∀ i, i < n → (Gs M0).2.2.2 (34 + 2 * ja + 1) i = (fun i => it (40 * ja + i)) i := fun i hi => e_it i (by omega)
          obtain ⟨k, hk, rfl⟩ := rngP (x := x) c_12 h8 hpl
          refine r_aload_n dX11_fits_26 rfl rfl ?_
          refine r_getR (q := 33) dX11_fits_27 (ci := 11) (kf := 9) rfl (Nat.le_of_ble_eq_true rfl) (by decide) (by decide) rfl fl_X11_48 (Or.inl rfl) rfl ?_
          refine r_iload_n dX11_fits_30 rfl rfl ?_
          refine r_aaldS (q := (34 + 2 * ja)) (j := ja) dX11_fits_31 rfl (Nat.le_of_ble_eq_true rfl) rfl (by omega) (by decide) (rf33 (by omega)) ?_
          refine r_getI dX11_fits_32 (ci := 6) (kf := 0) (ShG (show ja < 4 by omega)).2.1 (Sh_lt (ShG (show ja < 4 by omega))) (by decide) (by decide) rfl fl_X11_240 (Or.inl rfl) ?_
          rw [e_so]
          refine r_iconst (v := (-1)) dX11_fits_35 (by decide) ?_
          refine r_icmp_ne (tgt := 42) dX11_fits_36 (by decide) (fun c_36 => ?_) (fun c_36 => ?_)
          · (try dsimp only [Gs_M] at c_36)
            refine r_iload_n dX11_fits_42 rfl rfl ?_
            refine r_if_ne (tgt := 63) dX11_fits_43 (by decide) (fun c_43 => ?_) (fun c_43 => ?_)
            · (try dsimp only [Gs_M] at c_43)
              refine r_aload_n dX11_fits_63 rfl rfl ?_
              refine r_getR (q := 28) dX11_fits_64 (ci := 11) (kf := 4) rfl (Nat.le_of_ble_eq_true rfl) (by decide) (by decide) rfl fl_X11_27 (Or.inl rfl) rfl ?_
              refine r_aload_n dX11_fits_67 rfl rfl ?_
              refine r_getR (q := 33) dX11_fits_68 (ci := 11) (kf := 9) rfl (Nat.le_of_ble_eq_true rfl) (by decide) (by decide) rfl fl_X11_48 (Or.inl rfl) rfl ?_
              refine r_iload_n dX11_fits_71 rfl rfl ?_
              refine r_aaldS (q := (34 + 2 * ja)) (j := ja) dX11_fits_72 rfl (Nat.le_of_ble_eq_true rfl) rfl (by omega) (by decide) (rf33 (by omega)) ?_
              refine r_iload_n dX11_fits_73 rfl rfl ?_
              refine r_callV_eI (ci := 10) dX11_fits_74 (s_X10_leastThatFits g hS hI hN ja k n (by omega) (by omega) hn e_sz2) mf_X10_leastThatFits mi_X10_leastThatFits se_X10_X10_X10_leastThatFits ml_X11_247 rfl rfl (Nat.le_of_ble_eq_true rfl) rfl (by decide) rfl (Nat.le_of_ble_eq_true rfl) ⟨(Nat.le_of_ble_eq_true rfl), (Nat.le_of_ble_eq_true rfl)⟩ ⟨(Nat.le_of_ble_eq_true rfl), (Nat.le_of_ble_eq_true rfl)⟩ (fun r_74 S_74 q_74 z_74 => ?_)
              refine r_iret dX11_fits_77 rfl (Nat.le_refl _) ?_
              (try dsimp only [Gs_M])
              obtain ⟨e_r, f_r, k_r⟩ := q_74
              refine ⟨_, rfl, ?_, f_r, k_r⟩
              rw [e_r, fitsX, if_pos ⟨c_4, c_12, ⟨Int32.not_lt.mp c_16, c_21⟩⟩, cl_nI (by omega), cl_nI (by omega), if_neg (fun z => c_36 ((so_neg hV (by omega)).mp z)), if_neg c_43, en, cl_nI (by omega), fitB_cg (W := vw (Gs M0) 1) (k := k) (n := n) e_it2, fw_e]
            · (try dsimp only [Gs_M] at c_43)
              refine r_aload_n dX11_fits_46 rfl rfl ?_
              refine r_getR (q := 28) dX11_fits_47 (ci := 11) (kf := 4) rfl (Nat.le_of_ble_eq_true rfl) (by decide) (by decide) rfl fl_X11_27 (Or.inl rfl) rfl ?_
              refine r_aload_n dX11_fits_50 rfl rfl ?_
              refine r_getR (q := 33) dX11_fits_51 (ci := 11) (kf := 9) rfl (Nat.le_of_ble_eq_true rfl) (by decide) (by decide) rfl fl_X11_48 (Or.inl rfl) rfl ?_
              refine r_iload_n dX11_fits_54 rfl rfl ?_
              refine r_aaldS (q := (34 + 2 * ja)) (j := ja) dX11_fits_55 rfl (Nat.le_of_ble_eq_true rfl) rfl (by omega) (by decide) (rf33 (by omega)) ?_
              refine r_iload_n dX11_fits_56 rfl rfl ?_
              refine r_callV_eI (ci := 10) dX11_fits_57 (s_X10_howManyFit g hS hI hN ja k n (by omega) (by omega) hn e_sz2) mf_X10_howManyFit mi_X10_howManyFit se_X10_X10_X10_howManyFit ml_X11_243 rfl rfl (Nat.le_of_ble_eq_true rfl) rfl (by decide) rfl (Nat.le_of_ble_eq_true rfl) ⟨(Nat.le_of_ble_eq_true rfl), (Nat.le_of_ble_eq_true rfl)⟩ ⟨(Nat.le_of_ble_eq_true rfl), (Nat.le_of_ble_eq_true rfl)⟩ (fun r_57 S_57 q_57 z_57 => ?_)
              refine r_goto (tgt := 77) dX11_fits_60 (by decide) ?_
              refine r_iret dX11_fits_77 rfl (Nat.le_refl _) ?_
              (try dsimp only [Gs_M])
              obtain ⟨e_r, f_r, k_r⟩ := q_57
              refine ⟨_, rfl, ?_, f_r, k_r⟩
              rw [e_r, fitsX, if_pos ⟨c_4, c_12, ⟨Int32.not_lt.mp c_16, c_21⟩⟩, cl_nI (by omega), cl_nI (by omega), if_neg (fun z => c_36 ((so_neg hV (by omega)).mp z)), if_pos c_43, en, cl_nI (by omega), fitB_cg (W := vw (Gs M0) 1) (k := k) (n := n) e_it2, hm_e]
          · (try dsimp only [Gs_M] at c_36)
            refine r_bipush (v := (-11)) dX11_fits_39 (by decide) ?_
            refine r_iret dX11_fits_41 rfl (Nat.le_refl _) ?_
            (try dsimp only [Gs_M])
            refine ⟨_, rfl, ?_, fT.rf, hS⟩
            rw [fitsX, if_pos ⟨c_4, c_12, ⟨Int32.not_lt.mp c_16, c_21⟩⟩, cl_nI (by omega), if_pos (by rw [c_36]; decide)]
        · (try dsimp only [Gs_M] at c_21)
          refine r_iconst (v := (-1)) dX11_fits_24 (by decide) ?_
          refine r_iret dX11_fits_25 rfl (Nat.le_refl _) ?_
          (try dsimp only [Gs_M])
          refine ⟨_, rfl, ?_, fT.rf, hS⟩
          rw [fitsX, if_neg (fun z => c_21 z.2.2.2)]
