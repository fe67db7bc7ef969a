theorem sf_one {W ho h1 : Nat → Int32} {j : Nat} {x n s : Int32} (hA : SfA x n s (ho j) (h1 j)) (h : ¬ hoX W ho h1 j < 0) (h2 : ¬ x = 2) : hoX W ho h1 j = 0 ∧ n = h1 j ∧ x = 1 := by
  rcases hA with ⟨e, e2⟩ | ⟨e, e2, e3⟩ | ⟨e, _⟩
  · exfalso
    apply h
    unfold hoX
    rw [e2]
    split <;> decide
  · refine ⟨?_, e3, e⟩
    unfold hoX at h ⊢
    by_cases c : ho j = 0 ∧ ¬ (0 ≤ h1 j ∧ h1 j ≤ W 6 - 1)
    · rw [if_pos c] at h
      exact absurd (by decide) h
    · rw [if_neg c]; exact e2
  · exact absurd e h2
theorem sf_row {W ho h1 : Nat → Int32} {j : Nat} {x n s : Int32} (hA : SfA x n s (ho j) (h1 j)) (h2 : x = 2) : ∃ d, d ≤ 3 ∧ s = nI d ∧ hoX W ho h1 j = nI (10 + d) ∧ n = h1 j := by
  rcases hA with ⟨e, _⟩ | ⟨e, _⟩ | ⟨_, ⟨d, hd, es, e⟩, en⟩
  · exact absurd (e.symm.trans h2) (by decide)
  · exact absurd (e.symm.trans h2) (by decide)
  · refine ⟨d, hd, es, ?_, en⟩
    unfold hoX
    rw [e, ten_nn hd, if_neg (fun y => nI_ne0 (by omega) (by omega) y.1)]
theorem ten_sub {d : Nat} {a : Int32} (hd : d ≤ 3) : nI d = a - 10 ↔ nI (10 + d) = a := by
  constructor
  · intro z
    rw [← ten_nn hd, z, Int32.add_comm, Int32.sub_add_cancel]
  · intro z
    rw [← z, ← ten_nn hd, Int32.add_comm, Int32.add_sub_cancel]
theorem no_row {d : Nat} {a : Int32} (ha : 0 ≤ a ∧ a ≤ 5) : ¬ nI (10 + d % 4) = a := fun z => by
  obtain ⟨j, hj, e⟩ := rng 5 (by decide) ha
  have := (nI_eq (by omega) (by omega)).mp (z.trans e)
  omega
set_option maxRecDepth 20000 in
set_option maxHeartbeats 1000000 in
theorem s_X11_taken (g : pG) {S : pS} (hS : sOk S) (hI : InvR (vw S 1)) (hN : InvN (vw S 1)) {ho h1 : Nat → Int32} (hF : SfR S ho h1) (s a : Int32) : MS g mX11_taken 3 0 0 [.ref 0, .int s, .int a] (S) (eI (fun rx S1 => rx = takenX (vw (S) 1) ho h1 s a ∧ fr [] (S) S1)) := by
  obtain ⟨M0, rfl⟩ := sOk_gs hS
  obtain ⟨h8, hpl⟩ := hI.pl
  refine MS.of pn_X11 (Nat.le_of_ble_eq_true rfl) ?_
  refine r_iload_n dX11_taken_0 rfl rfl ?_
  refine r_bipush (v := 10) dX11_taken_1 (by decide) ?_
  refine r_icmp_lt (tgt := 16) dX11_taken_3 (by decide) (fun c_3 => ?_) (fun c_3 => ?_)
  · (try dsimp only [Gs_M] at c_3)
    refine r_iconst (v := 0) dX11_taken_16 (by decide) ?_
    refine r_istore_n dX11_taken_17 rfl (by decide) ?_
    refine r_iload_n dX11_taken_18 rfl rfl ?_
    refine r_callS_dI dX11_taken_19 (s_X11_isShelf g _ _) mf_X11_isShelf mt_X11_isShelf ml_X11_287 rfl rfl (Nat.le_of_ble_eq_true rfl) ⟨(Nat.le_of_ble_eq_true rfl), (Nat.le_of_ble_eq_true rfl)⟩ ⟨(Nat.le_of_ble_eq_true rfl), (Nat.le_of_ble_eq_true rfl)⟩ ?_
    refine r_if_eq (tgt := 36) dX11_taken_22 (by decide) (fun c_22 => ?_) (fun c_22 => ?_)
    · have c_22 := bI_0 c_22
      (try dsimp only [Gs_M] at c_22)
      refine r_iconst (v := (-1)) dX11_taken_36 (by decide) ?_
      refine r_iret dX11_taken_37 rfl (Nat.le_refl _) ?_
      (try dsimp only [Gs_M])
      refine ⟨_, rfl, ?_, fr.rf⟩
      rw [takenX, if_neg (fun z => c_22 z.1)]
    · have c_22 := bI_n c_22
      (try dsimp only [Gs_M] at c_22)
      refine r_iload_n dX11_taken_25 rfl rfl ?_
      refine r_callS_dI dX11_taken_26 (s_X11_isKind g _ _) mf_X11_isKind mt_X11_isKind ml_X11_143 rfl rfl (Nat.le_of_ble_eq_true rfl) ⟨(Nat.le_of_ble_eq_true rfl), (Nat.le_of_ble_eq_true rfl)⟩ ⟨(Nat.le_of_ble_eq_true rfl), (Nat.le_of_ble_eq_true rfl)⟩ ?_
      refine r_if_ne (tgt := 38) dX11_taken_29 (by decide) (fun c_29 => ?_) (fun c_29 => ?_)
      · have c_29 := bI_n c_29
        (try dsimp only [Gs_M] at c_29)
        obtain ⟨ja, hja, rfl⟩ := rng (x := s) 3 (by decide) c_22
        have hSf := hF ja (by omega)
        dsimp only [Gs_M] at hSf
        refine r_aload_n dX11_taken_38 rfl rfl ?_
        refine r_iload_n dX11_taken_39 rfl rfl ?_
        refine r_callV_dI (ci := 11) dX11_taken_40 (s_X11_holdsNothing g hS hI hF (ja) (by omega)) mf_X11_holdsNothing mi_X11_holdsNothing se_X11_X11_X11_holdsNothing ml_X11_294 rfl rfl (Nat.le_of_ble_eq_true rfl) rfl (by decide) rfl (Nat.le_of_ble_eq_true rfl) ⟨(Nat.le_of_ble_eq_true rfl), (Nat.le_of_ble_eq_true rfl)⟩ ⟨(Nat.le_of_ble_eq_true rfl), (Nat.le_of_ble_eq_true rfl)⟩ ?_
        refine r_if_eq (tgt := 49) dX11_taken_43 (by decide) (fun c_43 => ?_) (fun c_43 => ?_)
        · have c_43 := bI_0 c_43
          (try dsimp only [Gs_M] at c_43)
          refine r_aload_n dX11_taken_49 rfl rfl ?_
          refine r_getR (q := 43) dX11_taken_50 (ci := 11) (kf := 11) rfl (Nat.le_of_ble_eq_true rfl) (by decide) (by decide) rfl fl_X11_55 (Or.inl rfl) rfl ?_
          refine r_iload_n dX11_taken_53 rfl rfl ?_
          refine r_iald (j := ja) dX11_taken_54 rfl (Nat.le_of_ble_eq_true rfl) rfl (by omega) (by decide) ?_
          refine r_istore dX11_taken_55 (by decide) ?_
          refine r_aload_n dX11_taken_57 rfl rfl ?_
          refine r_getR (q := 42) dX11_taken_58 (ci := 11) (kf := 10) rfl (Nat.le_of_ble_eq_true rfl) (by decide) (by decide) rfl fl_X11_52 (Or.inl rfl) rfl ?_
          refine r_iload_n dX11_taken_61 rfl rfl ?_
          refine r_iald (j := ja) dX11_taken_62 rfl (Nat.le_of_ble_eq_true rfl) rfl (by omega) (by decide) ?_
          refine r_iconst (v := 2) dX11_taken_63 (by decide) ?_
          refine r_icmp_ne (tgt := 92) dX11_taken_64 (by decide) (fun c_64 => ?_) (fun c_64 => ?_)
          · (try dsimp only [Gs_M] at c_64)
            obtain ⟨eho, en, e1x⟩ := sf_one hSf c_43 c_64
            obtain ⟨k, hk, ek⟩ := rngP (ho0 eho) h8 hpl
            refine r_iload_n dX11_taken_92 rfl rfl ?_
            refine r_if_ne (tgt := 118) dX11_taken_93 (by decide) (fun c => absurd c (by decide)) (fun _ => ?_)
            refine r_aload_n dX11_taken_96 rfl rfl ?_
            refine r_getR (q := 1) dX11_taken_97 (ci := 11) (kf := 0) rfl (Nat.le_of_ble_eq_true rfl) (by decide) (by decide) rfl fl_X11_10 (Or.inl rfl) rfl ?_
            refine r_getR (q := (1 + 3)) dX11_taken_100 (ci := 0) (kf := 2) rfl (Nat.le_of_ble_eq_true rfl) (by decide) (by decide) rfl fl_X11_153 (Or.inl rfl) (CoG (Or.inl rfl)).2.2.2.2.2.1 ?_
            refine r_iload dX11_taken_103 rfl ?_
            refine r_iald (j := k) dX11_taken_105 (CoG (Or.inl rfl)).2.2.1.2.2.1 (Co_la3 (CoG (Or.inl rfl))) (en.trans ek) (by omega) (by decide) ?_
            obtain ⟨kd, hkd, ekd⟩ := (hN.2.2 k (by omega)).1
            rw [show (Gs M0).2.2.2 (1 + 3) k = nI kd from (vw_k (S := Gs M0) (b := 1) (by omega)).symm.trans ekd]
            refine r_iload_n dX11_taken_106 rfl rfl ?_
            refine r_callS_dI dX11_taken_107 (s_X11_isOfKind g (kd) (by omega) _ _) mf_X11_isOfKind mt_X11_isOfKind ml_X11_297 rfl rfl (Nat.le_of_ble_eq_true rfl) ⟨(Nat.le_of_ble_eq_true rfl), (Nat.le_of_ble_eq_true rfl)⟩ ⟨(Nat.le_of_ble_eq_true rfl), (Nat.le_of_ble_eq_true rfl)⟩ ?_
            refine r_if_eq (tgt := 118) dX11_taken_110 (by decide) (fun c_110 => ?_) (fun c_110 => ?_)
            · have c_110 := bI_0 c_110
              (try dsimp only [Gs_M] at c_110)
              refine r_bipush (v := (-13)) dX11_taken_118 (by decide) ?_
              refine r_iret dX11_taken_120 rfl (Nat.le_refl _) ?_
              (try dsimp only [Gs_M])
              have hA : tkA (nI ja) a := ⟨c_22, Or.inl c_29⟩
              refine ⟨_, rfl, ?_, fr.rf⟩
              rw [takenX, if_pos hA, cl_nI (by omega), if_neg c_43, eho, if_pos rfl, if_neg (fun z => c_110 (by rw [← (show vw (Gs M0) 1 (16 + 11 * cl (h1 ja) + 0) = nI kd by rw [ek, cl_nI (by omega)]; exact ekd)]; exact z.2))]
            · have c_110 := bI_n c_110
              (try dsimp only [Gs_M] at c_110)
              refine r_iload dX11_taken_113 rfl ?_
              refine r_goto (tgt := 120) dX11_taken_115 (by decide) ?_
              refine r_iret dX11_taken_120 rfl (Nat.le_refl _) ?_
              (try dsimp only [Gs_M])
              have hA : tkA (nI ja) a := ⟨c_22, Or.inl c_29⟩
              refine ⟨_, rfl, ?_, fr.rf⟩
              rw [takenX, if_pos hA, cl_nI (by omega), if_neg c_43, eho, if_pos rfl, if_pos ⟨(by obtain ⟨q, hq, eq⟩ := rng (x := a) 5 (by decide) c_29; rw [eq]; exact nI_lt (b := 10) (by omega) (by omega)), by rw [(show vw (Gs M0) 1 (16 + 11 * cl (h1 ja) + 0) = nI kd by rw [ek, cl_nI (by omega)]; exact ekd)]; exact c_110⟩]
              exact en
          · (try dsimp only [Gs_M] at c_64)
            obtain ⟨d, hd, ed, ehr, en⟩ := sf_row (W := vw (Gs M0) 1) hSf c_64
            refine r_iload_n dX11_taken_67 rfl rfl ?_
            refine r_if_eq (tgt := 89) dX11_taken_68 (by decide) (fun _ => ?_) (fun c => absurd c (by decide))
            refine r_bipush (v := (-13)) dX11_taken_89 (by decide) ?_
            refine r_iret dX11_taken_91 rfl (Nat.le_refl _) ?_
            (try dsimp only [Gs_M])
            have hA : tkA (nI ja) a := ⟨c_22, Or.inl c_29⟩
            refine ⟨_, rfl, ?_, fr.rf⟩
            rw [takenX, if_pos hA, cl_nI (by omega), if_neg c_43, ehr, if_neg (nI_ne0 (by omega) (by omega)), if_neg (fun z => no_row (d := d) c_29 (by rw [Nat.mod_eq_of_lt (by omega)]; exact z))]
        · have c_43 := bI_n c_43
          (try dsimp only [Gs_M] at c_43)
          refine r_bipush (v := (-11)) dX11_taken_46 (by decide) ?_
          refine r_iret dX11_taken_48 rfl (Nat.le_refl _) ?_
          (try dsimp only [Gs_M])
          have hA : tkA (nI ja) a := ⟨c_22, Or.inl c_29⟩
          refine ⟨_, rfl, ?_, fr.rf⟩
          rw [takenX, if_pos hA, cl_nI (by omega), if_pos c_43]
      · have c_29 := bI_0 c_29
        (try dsimp only [Gs_M] at c_29)
        refine r_iload_n dX11_taken_32 rfl rfl ?_
        refine r_if_ne (tgt := 38) dX11_taken_33 (by decide) (fun c => absurd c (by decide)) (fun _ => ?_)
        refine r_iconst (v := (-1)) dX11_taken_36 (by decide) ?_
        refine r_iret dX11_taken_37 rfl (Nat.le_refl _) ?_
        (try dsimp only [Gs_M])
        refine ⟨_, rfl, ?_, fr.rf⟩
        rw [takenX, if_neg (fun z => z.2.elim c_29 (fun y => Int32.not_lt.mpr y.1 c_3))]
  · (try dsimp only [Gs_M] at c_3)
    refine r_iload_n dX11_taken_6 rfl rfl ?_
    refine r_bipush (v := 14) dX11_taken_7 (by decide) ?_
    refine r_icmp_ge (tgt := 16) dX11_taken_9 (by decide) (fun c_9 => ?_) (fun c_9 => ?_)
    · (try dsimp only [Gs_M] at c_9)
      refine r_iconst (v := 0) dX11_taken_16 (by decide) ?_
      refine r_istore_n dX11_taken_17 rfl (by decide) ?_
      refine r_iload_n dX11_taken_18 rfl rfl ?_
      refine r_callS_dI dX11_taken_19 (s_X11_isShelf g _ _) mf_X11_isShelf mt_X11_isShelf ml_X11_287 rfl rfl (Nat.le_of_ble_eq_true rfl) ⟨(Nat.le_of_ble_eq_true rfl), (Nat.le_of_ble_eq_true rfl)⟩ ⟨(Nat.le_of_ble_eq_true rfl), (Nat.le_of_ble_eq_true rfl)⟩ ?_
      refine r_if_eq (tgt := 36) dX11_taken_22 (by decide) (fun c_22 => ?_) (fun c_22 => ?_)
      · have c_22 := bI_0 c_22
        (try dsimp only [Gs_M] at c_22)
        refine r_iconst (v := (-1)) dX11_taken_36 (by decide) ?_
        refine r_iret dX11_taken_37 rfl (Nat.le_refl _) ?_
        (try dsimp only [Gs_M])
        refine ⟨_, rfl, ?_, fr.rf⟩
        rw [takenX, if_neg (fun z => c_22 z.1)]
      · have c_22 := bI_n c_22
        (try dsimp only [Gs_M] at c_22)
        refine r_iload_n dX11_taken_25 rfl rfl ?_
        refine r_callS_dI dX11_taken_26 (s_X11_isKind g _ _) mf_X11_isKind mt_X11_isKind ml_X11_143 rfl rfl (Nat.le_of_ble_eq_true rfl) ⟨(Nat.le_of_ble_eq_true rfl), (Nat.le_of_ble_eq_true rfl)⟩ ⟨(Nat.le_of_ble_eq_true rfl), (Nat.le_of_ble_eq_true rfl)⟩ ?_
        refine r_if_ne (tgt := 38) dX11_taken_29 (by decide) (fun c_29 => ?_) (fun c_29 => ?_)
        · have c_29 := bI_n c_29
          (try dsimp only [Gs_M] at c_29)
          obtain ⟨ja, hja, rfl⟩ := rng (x := s) 3 (by decide) c_22
          have hSf := hF ja (by omega)
          dsimp only [Gs_M] at hSf
          refine r_aload_n dX11_taken_38 rfl rfl ?_
          refine r_iload_n dX11_taken_39 rfl rfl ?_
          refine r_callV_dI (ci := 11) dX11_taken_40 (s_X11_holdsNothing g hS hI hF (ja) (by omega)) mf_X11_holdsNothing mi_X11_holdsNothing se_X11_X11_X11_holdsNothing ml_X11_294 rfl rfl (Nat.le_of_ble_eq_true rfl) rfl (by decide) rfl (Nat.le_of_ble_eq_true rfl) ⟨(Nat.le_of_ble_eq_true rfl), (Nat.le_of_ble_eq_true rfl)⟩ ⟨(Nat.le_of_ble_eq_true rfl), (Nat.le_of_ble_eq_true rfl)⟩ ?_
          refine r_if_eq (tgt := 49) dX11_taken_43 (by decide) (fun c_43 => ?_) (fun c_43 => ?_)
          · have c_43 := bI_0 c_43
            (try dsimp only [Gs_M] at c_43)
            refine r_aload_n dX11_taken_49 rfl rfl ?_
            refine r_getR (q := 43) dX11_taken_50 (ci := 11) (kf := 11) rfl (Nat.le_of_ble_eq_true rfl) (by decide) (by decide) rfl fl_X11_55 (Or.inl rfl) rfl ?_
            refine r_iload_n dX11_taken_53 rfl rfl ?_
            refine r_iald (j := ja) dX11_taken_54 rfl (Nat.le_of_ble_eq_true rfl) rfl (by omega) (by decide) ?_
            refine r_istore dX11_taken_55 (by decide) ?_
            refine r_aload_n dX11_taken_57 rfl rfl ?_
            refine r_getR (q := 42) dX11_taken_58 (ci := 11) (kf := 10) rfl (Nat.le_of_ble_eq_true rfl) (by decide) (by decide) rfl fl_X11_52 (Or.inl rfl) rfl ?_
            refine r_iload_n dX11_taken_61 rfl rfl ?_
            refine r_iald (j := ja) dX11_taken_62 rfl (Nat.le_of_ble_eq_true rfl) rfl (by omega) (by decide) ?_
            refine r_iconst (v := 2) dX11_taken_63 (by decide) ?_
            refine r_icmp_ne (tgt := 92) dX11_taken_64 (by decide) (fun c_64 => ?_) (fun c_64 => ?_)
            · (try dsimp only [Gs_M] at c_64)
              obtain ⟨eho, en, e1x⟩ := sf_one hSf c_43 c_64
              obtain ⟨k, hk, ek⟩ := rngP (ho0 eho) h8 hpl
              refine r_iload_n dX11_taken_92 rfl rfl ?_
              refine r_if_ne (tgt := 118) dX11_taken_93 (by decide) (fun c => absurd c (by decide)) (fun _ => ?_)
              refine r_aload_n dX11_taken_96 rfl rfl ?_
              refine r_getR (q := 1) dX11_taken_97 (ci := 11) (kf := 0) rfl (Nat.le_of_ble_eq_true rfl) (by decide) (by decide) rfl fl_X11_10 (Or.inl rfl) rfl ?_
              refine r_getR (q := (1 + 3)) dX11_taken_100 (ci := 0) (kf := 2) rfl (Nat.le_of_ble_eq_true rfl) (by decide) (by decide) rfl fl_X11_153 (Or.inl rfl) (CoG (Or.inl rfl)).2.2.2.2.2.1 ?_
              refine r_iload dX11_taken_103 rfl ?_
              refine r_iald (j := k) dX11_taken_105 (CoG (Or.inl rfl)).2.2.1.2.2.1 (Co_la3 (CoG (Or.inl rfl))) (en.trans ek) (by omega) (by decide) ?_
              obtain ⟨kd, hkd, ekd⟩ := (hN.2.2 k (by omega)).1
              rw [show (Gs M0).2.2.2 (1 + 3) k = nI kd from (vw_k (S := Gs M0) (b := 1) (by omega)).symm.trans ekd]
              refine r_iload_n dX11_taken_106 rfl rfl ?_
              refine r_callS_dI dX11_taken_107 (s_X11_isOfKind g (kd) (by omega) _ _) mf_X11_isOfKind mt_X11_isOfKind ml_X11_297 rfl rfl (Nat.le_of_ble_eq_true rfl) ⟨(Nat.le_of_ble_eq_true rfl), (Nat.le_of_ble_eq_true rfl)⟩ ⟨(Nat.le_of_ble_eq_true rfl), (Nat.le_of_ble_eq_true rfl)⟩ ?_
              refine r_if_eq (tgt := 118) dX11_taken_110 (by decide) (fun c_110 => ?_) (fun c_110 => ?_)
              · have c_110 := bI_0 c_110
                (try dsimp only [Gs_M] at c_110)
                refine r_bipush (v := (-13)) dX11_taken_118 (by decide) ?_
                refine r_iret dX11_taken_120 rfl (Nat.le_refl _) ?_
                (try dsimp only [Gs_M])
                have hA : tkA (nI ja) a := ⟨c_22, Or.inl c_29⟩
                refine ⟨_, rfl, ?_, fr.rf⟩
                rw [takenX, if_pos hA, cl_nI (by omega), if_neg c_43, eho, if_pos rfl, if_neg (fun z => c_110 (by rw [← (show vw (Gs M0) 1 (16 + 11 * cl (h1 ja) + 0) = nI kd by rw [ek, cl_nI (by omega)]; exact ekd)]; exact z.2))]
              · have c_110 := bI_n c_110
                (try dsimp only [Gs_M] at c_110)
                refine r_iload dX11_taken_113 rfl ?_
                refine r_goto (tgt := 120) dX11_taken_115 (by decide) ?_
                refine r_iret dX11_taken_120 rfl (Nat.le_refl _) ?_
                (try dsimp only [Gs_M])
                have hA : tkA (nI ja) a := ⟨c_22, Or.inl c_29⟩
                refine ⟨_, rfl, ?_, fr.rf⟩
                rw [takenX, if_pos hA, cl_nI (by omega), if_neg c_43, eho, if_pos rfl, if_pos ⟨(by obtain ⟨q, hq, eq⟩ := rng (x := a) 5 (by decide) c_29; rw [eq]; exact nI_lt (b := 10) (by omega) (by omega)), by rw [(show vw (Gs M0) 1 (16 + 11 * cl (h1 ja) + 0) = nI kd by rw [ek, cl_nI (by omega)]; exact ekd)]; exact c_110⟩]
                exact en
            · (try dsimp only [Gs_M] at c_64)
              obtain ⟨d, hd, ed, ehr, en⟩ := sf_row (W := vw (Gs M0) 1) hSf c_64
              refine r_iload_n dX11_taken_67 rfl rfl ?_
              refine r_if_eq (tgt := 89) dX11_taken_68 (by decide) (fun _ => ?_) (fun c => absurd c (by decide))
              refine r_bipush (v := (-13)) dX11_taken_89 (by decide) ?_
              refine r_iret dX11_taken_91 rfl (Nat.le_refl _) ?_
              (try dsimp only [Gs_M])
              have hA : tkA (nI ja) a := ⟨c_22, Or.inl c_29⟩
              refine ⟨_, rfl, ?_, fr.rf⟩
              rw [takenX, if_pos hA, cl_nI (by omega), if_neg c_43, ehr, if_neg (nI_ne0 (by omega) (by omega)), if_neg (fun z => no_row (d := d) c_29 (by rw [Nat.mod_eq_of_lt (by omega)]; exact z))]
          · have c_43 := bI_n c_43
            (try dsimp only [Gs_M] at c_43)
            refine r_bipush (v := (-11)) dX11_taken_46 (by decide) ?_
            refine r_iret dX11_taken_48 rfl (Nat.le_refl _) ?_
            (try dsimp only [Gs_M])
            have hA : tkA (nI ja) a := ⟨c_22, Or.inl c_29⟩
            refine ⟨_, rfl, ?_, fr.rf⟩
            rw [takenX, if_pos hA, cl_nI (by omega), if_pos c_43]
        · have c_29 := bI_0 c_29
          (try dsimp only [Gs_M] at c_29)
          refine r_iload_n dX11_taken_32 rfl rfl ?_
          refine r_if_ne (tgt := 38) dX11_taken_33 (by decide) (fun c => absurd c (by decide)) (fun _ => ?_)
          refine r_iconst (v := (-1)) dX11_taken_36 (by decide) ?_
          refine r_iret dX11_taken_37 rfl (Nat.le_refl _) ?_
          (try dsimp only [Gs_M])
          refine ⟨_, rfl, ?_, fr.rf⟩
          rw [takenX, if_neg (fun z => z.2.elim c_29 (fun y => i_no 13 (by omega) c_9 y.2))]
    · (try dsimp only [Gs_M] at c_9)
      refine r_iconst (v := 1) dX11_taken_12 (by decide) ?_
      refine r_goto (tgt := 17) dX11_taken_13 (by decide) ?_
      refine r_istore_n dX11_taken_17 rfl (by decide) ?_
      refine r_iload_n dX11_taken_18 rfl rfl ?_
      refine r_callS_dI dX11_taken_19 (s_X11_isShelf g _ _) mf_X11_isShelf mt_X11_isShelf ml_X11_287 rfl rfl (Nat.le_of_ble_eq_true rfl) ⟨(Nat.le_of_ble_eq_true rfl), (Nat.le_of_ble_eq_true rfl)⟩ ⟨(Nat.le_of_ble_eq_true rfl), (Nat.le_of_ble_eq_true rfl)⟩ ?_
      refine r_if_eq (tgt := 36) dX11_taken_22 (by decide) (fun c_22 => ?_) (fun c_22 => ?_)
      · have c_22 := bI_0 c_22
        (try dsimp only [Gs_M] at c_22)
        refine r_iconst (v := (-1)) dX11_taken_36 (by decide) ?_
        refine r_iret dX11_taken_37 rfl (Nat.le_refl _) ?_
        (try dsimp only [Gs_M])
        refine ⟨_, rfl, ?_, fr.rf⟩
        rw [takenX, if_neg (fun z => c_22 z.1)]
      · have c_22 := bI_n c_22
        (try dsimp only [Gs_M] at c_22)
        refine r_iload_n dX11_taken_25 rfl rfl ?_
        refine r_callS_dI dX11_taken_26 (s_X11_isKind g _ _) mf_X11_isKind mt_X11_isKind ml_X11_143 rfl rfl (Nat.le_of_ble_eq_true rfl) ⟨(Nat.le_of_ble_eq_true rfl), (Nat.le_of_ble_eq_true rfl)⟩ ⟨(Nat.le_of_ble_eq_true rfl), (Nat.le_of_ble_eq_true rfl)⟩ ?_
        refine r_if_ne (tgt := 38) dX11_taken_29 (by decide) (fun c_29 => ?_) (fun c_29 => ?_)
        · have c_29 := bI_n c_29
          (try dsimp only [Gs_M] at c_29)
          obtain ⟨ja, hja, rfl⟩ := rng (x := s) 3 (by decide) c_22
          have hSf := hF ja (by omega)
          dsimp only [Gs_M] at hSf
          refine r_aload_n dX11_taken_38 rfl rfl ?_
          refine r_iload_n dX11_taken_39 rfl rfl ?_
          refine r_callV_dI (ci := 11) dX11_taken_40 (s_X11_holdsNothing g hS hI hF (ja) (by omega)) mf_X11_holdsNothing mi_X11_holdsNothing se_X11_X11_X11_holdsNothing ml_X11_294 rfl rfl (Nat.le_of_ble_eq_true rfl) rfl (by decide) rfl (Nat.le_of_ble_eq_true rfl) ⟨(Nat.le_of_ble_eq_true rfl), (Nat.le_of_ble_eq_true rfl)⟩ ⟨(Nat.le_of_ble_eq_true rfl), (Nat.le_of_ble_eq_true rfl)⟩ ?_
          refine r_if_eq (tgt := 49) dX11_taken_43 (by decide) (fun c_43 => ?_) (fun c_43 => ?_)
          · have c_43 := bI_0 c_43
            (try dsimp only [Gs_M] at c_43)
            refine r_aload_n dX11_taken_49 rfl rfl ?_
            refine r_getR (q := 43) dX11_taken_50 (ci := 11) (kf := 11) rfl (Nat.le_of_ble_eq_true rfl) (by decide) (by decide) rfl fl_X11_55 (Or.inl rfl) rfl ?_
            refine r_iload_n dX11_taken_53 rfl rfl ?_
            refine r_iald (j := ja) dX11_taken_54 rfl (Nat.le_of_ble_eq_true rfl) rfl (by omega) (by decide) ?_
            refine r_istore dX11_taken_55 (by decide) ?_
            refine r_aload_n dX11_taken_57 rfl rfl ?_
            refine r_getR (q := 42) dX11_taken_58 (ci := 11) (kf := 10) rfl (Nat.le_of_ble_eq_true rfl) (by decide) (by decide) rfl fl_X11_52 (Or.inl rfl) rfl ?_
            refine r_iload_n dX11_taken_61 rfl rfl ?_
            refine r_iald (j := ja) dX11_taken_62 rfl (Nat.le_of_ble_eq_true rfl) rfl (by omega) (by decide) ?_
            refine r_iconst (v := 2) dX11_taken_63 (by decide) ?_
            refine r_icmp_ne (tgt := 92) dX11_taken_64 (by decide) (fun c_64 => ?_) (fun c_64 => ?_)
            · (try dsimp only [Gs_M] at c_64)
              obtain ⟨eho, en, e1x⟩ := sf_one hSf c_43 c_64
              obtain ⟨k, hk, ek⟩ := rngP (ho0 eho) h8 hpl
              refine r_iload_n dX11_taken_92 rfl rfl ?_
              refine r_if_ne (tgt := 118) dX11_taken_93 (by decide) (fun _ => ?_) (fun c => absurd c (by decide))
              refine r_bipush (v := (-13)) dX11_taken_118 (by decide) ?_
              refine r_iret dX11_taken_120 rfl (Nat.le_refl _) ?_
              (try dsimp only [Gs_M])
              have hA : tkA (nI ja) a := ⟨c_22, Or.inl c_29⟩
              refine ⟨_, rfl, ?_, fr.rf⟩
              rw [takenX, if_pos hA, cl_nI (by omega), if_neg c_43, eho, if_pos rfl, if_neg (fun z => Int32.not_lt.mpr (Int32.not_lt.mp c_3) z.1)]
            · (try dsimp only [Gs_M] at c_64)
              obtain ⟨d, hd, ed, ehr, en⟩ := sf_row (W := vw (Gs M0) 1) hSf c_64
              refine r_iload_n dX11_taken_67 rfl rfl ?_
              refine r_if_eq (tgt := 89) dX11_taken_68 (by decide) (fun c => absurd c (by decide)) (fun _ => ?_)
              refine r_aload_n dX11_taken_71 rfl rfl ?_
              refine r_getR (q := 44) dX11_taken_72 (ci := 11) (kf := 12) rfl (Nat.le_of_ble_eq_true rfl) (by decide) (by decide) rfl fl_X11_58 (Or.inl rfl) rfl ?_
              refine r_iload_n dX11_taken_75 rfl rfl ?_
              refine r_iald (j := ja) dX11_taken_76 rfl (Nat.le_of_ble_eq_true rfl) rfl (by omega) (by decide) ?_
              skip
              refine r_iload_n dX11_taken_77 rfl rfl ?_
              refine r_bipush (v := 10) dX11_taken_78 (by decide) ?_
              refine r_isub dX11_taken_80 ?_
              refine r_icmp_ne (tgt := 89) dX11_taken_81 (by decide) (fun c_81 => ?_) (fun c_81 => ?_)
              · (try dsimp only [Gs_M] at c_81)
                refine r_bipush (v := (-13)) dX11_taken_89 (by decide) ?_
                refine r_iret dX11_taken_91 rfl (Nat.le_refl _) ?_
                (try dsimp only [Gs_M])
                have hA : tkA (nI ja) a := ⟨c_22, Or.inl c_29⟩
                refine ⟨_, rfl, ?_, fr.rf⟩
                rw [takenX, if_pos hA, cl_nI (by omega), if_neg c_43, ehr, if_neg (nI_ne0 (by omega) (by omega)), if_neg (fun z => c_81 (ed.trans ((ten_sub hd).mpr z)))]
              · (try dsimp only [Gs_M] at c_81)
                refine r_iload dX11_taken_84 rfl ?_
                refine r_goto (tgt := 91) dX11_taken_86 (by decide) ?_
                refine r_iret dX11_taken_91 rfl (Nat.le_refl _) ?_
                (try dsimp only [Gs_M])
                have hA : tkA (nI ja) a := ⟨c_22, Or.inl c_29⟩
                refine ⟨_, rfl, ?_, fr.rf⟩
                rw [takenX, if_pos hA, cl_nI (by omega), if_neg c_43, ehr, if_neg (nI_ne0 (by omega) (by omega)), if_pos ((ten_sub hd).mp (ed.symm.trans c_81))]
                exact en
          · have c_43 := bI_n c_43
            (try dsimp only [Gs_M] at c_43)
            refine r_bipush (v := (-11)) dX11_taken_46 (by decide) ?_
            refine r_iret dX11_taken_48 rfl (Nat.le_refl _) ?_
            (try dsimp only [Gs_M])
            have hA : tkA (nI ja) a := ⟨c_22, Or.inl c_29⟩
            refine ⟨_, rfl, ?_, fr.rf⟩
            rw [takenX, if_pos hA, cl_nI (by omega), if_pos c_43]
        · have c_29 := bI_0 c_29
          (try dsimp only [Gs_M] at c_29)
          refine r_iload_n dX11_taken_32 rfl rfl ?_
          refine r_if_ne (tgt := 38) dX11_taken_33 (by decide) (fun _ => ?_) (fun c => absurd c (by decide))
          obtain ⟨ja, hja, rfl⟩ := rng (x := s) 3 (by decide) c_22
          have hSf := hF ja (by omega)
          dsimp only [Gs_M] at hSf
          refine r_aload_n dX11_taken_38 rfl rfl ?_
          refine r_iload_n dX11_taken_39 rfl rfl ?_
          refine r_callV_dI (ci := 11) dX11_taken_40 (s_X11_holdsNothing g hS hI hF (ja) (by omega)) mf_X11_holdsNothing mi_X11_holdsNothing se_X11_X11_X11_holdsNothing ml_X11_294 rfl rfl (Nat.le_of_ble_eq_true rfl) rfl (by decide) rfl (Nat.le_of_ble_eq_true rfl) ⟨(Nat.le_of_ble_eq_true rfl), (Nat.le_of_ble_eq_true rfl)⟩ ⟨(Nat.le_of_ble_eq_true rfl), (Nat.le_of_ble_eq_true rfl)⟩ ?_
          refine r_if_eq (tgt := 49) dX11_taken_43 (by decide) (fun c_43 => ?_) (fun c_43 => ?_)
          · have c_43 := bI_0 c_43
            (try dsimp only [Gs_M] at c_43)
            refine r_aload_n dX11_taken_49 rfl rfl ?_
            refine r_getR (q := 43) dX11_taken_50 (ci := 11) (kf := 11) rfl (Nat.le_of_ble_eq_true rfl) (by decide) (by decide) rfl fl_X11_55 (Or.inl rfl) rfl ?_
            refine r_iload_n dX11_taken_53 rfl rfl ?_
            refine r_iald (j := ja) dX11_taken_54 rfl (Nat.le_of_ble_eq_true rfl) rfl (by omega) (by decide) ?_
            refine r_istore dX11_taken_55 (by decide) ?_
            refine r_aload_n dX11_taken_57 rfl rfl ?_
            refine r_getR (q := 42) dX11_taken_58 (ci := 11) (kf := 10) rfl (Nat.le_of_ble_eq_true rfl) (by decide) (by decide) rfl fl_X11_52 (Or.inl rfl) rfl ?_
            refine r_iload_n dX11_taken_61 rfl rfl ?_
            refine r_iald (j := ja) dX11_taken_62 rfl (Nat.le_of_ble_eq_true rfl) rfl (by omega) (by decide) ?_
            refine r_iconst (v := 2) dX11_taken_63 (by decide) ?_
            refine r_icmp_ne (tgt := 92) dX11_taken_64 (by decide) (fun c_64 => ?_) (fun c_64 => ?_)
            · (try dsimp only [Gs_M] at c_64)
              obtain ⟨eho, en, e1x⟩ := sf_one hSf c_43 c_64
              obtain ⟨k, hk, ek⟩ := rngP (ho0 eho) h8 hpl
              refine r_iload_n dX11_taken_92 rfl rfl ?_
              refine r_if_ne (tgt := 118) dX11_taken_93 (by decide) (fun _ => ?_) (fun c => absurd c (by decide))
              refine r_bipush (v := (-13)) dX11_taken_118 (by decide) ?_
              refine r_iret dX11_taken_120 rfl (Nat.le_refl _) ?_
              (try dsimp only [Gs_M])
              have hA : tkA (nI ja) a := ⟨c_22, Or.inr ⟨Int32.not_lt.mp c_3, i_pred 13 (by omega) c_9⟩⟩
              refine ⟨_, rfl, ?_, fr.rf⟩
              rw [takenX, if_pos hA, cl_nI (by omega), if_neg c_43, eho, if_pos rfl, if_neg (fun z => Int32.not_lt.mpr (Int32.not_lt.mp c_3) z.1)]
            · (try dsimp only [Gs_M] at c_64)
              obtain ⟨d, hd, ed, ehr, en⟩ := sf_row (W := vw (Gs M0) 1) hSf c_64
              refine r_iload_n dX11_taken_67 rfl rfl ?_
              refine r_if_eq (tgt := 89) dX11_taken_68 (by decide) (fun c => absurd c (by decide)) (fun _ => ?_)
              refine r_aload_n dX11_taken_71 rfl rfl ?_
              refine r_getR (q := 44) dX11_taken_72 (ci := 11) (kf := 12) rfl (Nat.le_of_ble_eq_true rfl) (by decide) (by decide) rfl fl_X11_58 (Or.inl rfl) rfl ?_
              refine r_iload_n dX11_taken_75 rfl rfl ?_
              refine r_iald (j := ja) dX11_taken_76 rfl (Nat.le_of_ble_eq_true rfl) rfl (by omega) (by decide) ?_
              skip
              refine r_iload_n dX11_taken_77 rfl rfl ?_
              refine r_bipush (v := 10) dX11_taken_78 (by decide) ?_
              refine r_isub dX11_taken_80 ?_
              refine r_icmp_ne (tgt := 89) dX11_taken_81 (by decide) (fun c_81 => ?_) (fun c_81 => ?_)
              · (try dsimp only [Gs_M] at c_81)
                refine r_bipush (v := (-13)) dX11_taken_89 (by decide) ?_
                refine r_iret dX11_taken_91 rfl (Nat.le_refl _) ?_
                (try dsimp only [Gs_M])
                have hA : tkA (nI ja) a := ⟨c_22, Or.inr ⟨Int32.not_lt.mp c_3, i_pred 13 (by omega) c_9⟩⟩
                refine ⟨_, rfl, ?_, fr.rf⟩
                rw [takenX, if_pos hA, cl_nI (by omega), if_neg c_43, ehr, if_neg (nI_ne0 (by omega) (by omega)), if_neg (fun z => c_81 (ed.trans ((ten_sub hd).mpr z)))]
              · (try dsimp only [Gs_M] at c_81)
                refine r_iload dX11_taken_84 rfl ?_
                refine r_goto (tgt := 91) dX11_taken_86 (by decide) ?_
                refine r_iret dX11_taken_91 rfl (Nat.le_refl _) ?_
                (try dsimp only [Gs_M])
                have hA : tkA (nI ja) a := ⟨c_22, Or.inr ⟨Int32.not_lt.mp c_3, i_pred 13 (by omega) c_9⟩⟩
                refine ⟨_, rfl, ?_, fr.rf⟩
                rw [takenX, if_pos hA, cl_nI (by omega), if_neg c_43, ehr, if_neg (nI_ne0 (by omega) (by omega)), if_pos ((ten_sub hd).mp (ed.symm.trans c_81))]
                exact en
          · have c_43 := bI_n c_43
            (try dsimp only [Gs_M] at c_43)
            refine r_bipush (v := (-11)) dX11_taken_46 (by decide) ?_
            refine r_iret dX11_taken_48 rfl (Nat.le_refl _) ?_
            (try dsimp only [Gs_M])
            have hA : tkA (nI ja) a := ⟨c_22, Or.inr ⟨Int32.not_lt.mp c_3, i_pred 13 (by omega) c_9⟩⟩
            refine ⟨_, rfl, ?_, fr.rf⟩
            rw [takenX, if_pos hA, cl_nI (by omega), if_pos c_43]
set_option maxRecDepth 20000 in
set_option maxHeartbeats 1000000 in
theorem s_X11_trace (g : pG) {S : pS} (hS : sOk S) (hT : ∃ t, t ≤ 30 ∧ S.2.2.2 45 1 = nI t) (i : Int32) : MS g mX11_trace 1 0 0 [.ref 0, .int i] (S) (eI (fun rx S1 => rx = traceX (S.2.2.2 46) (S.2.2.2 45 1) i ∧ fr [] S S1)) := by
  obtain ⟨M0, rfl⟩ := sOk_gs hS
  obtain ⟨t, ht, et⟩ := hT
  have et : M0 45 1 = nI t := et
  refine MS.of pn_X11 (Nat.le_of_ble_eq_true rfl) ?_
  refine r_iload_n dX11_trace_0 rfl rfl ?_
  refine r_if_lt (tgt := 27) dX11_trace_1 (by decide) (fun c_1 => ?_) (fun c_1 => ?_)
  · (try dsimp only [Gs_M] at c_1)
    refine r_bipush (v := (-3)) dX11_trace_27 (by decide) ?_
    refine r_iret dX11_trace_29 rfl (Nat.le_refl _) ?_
    (try dsimp only [Gs_M])
    refine ⟨_, rfl, ?_, fr.rf⟩
    rw [traceX, if_neg (fun z => Int32.not_lt.mpr z.1 c_1)]
  · (try dsimp only [Gs_M] at c_1)
    refine r_iload_n dX11_trace_4 rfl rfl ?_
    refine r_aload_n dX11_trace_5 rfl rfl ?_
    refine r_getR (q := 45) dX11_trace_6 (ci := 11) (kf := 13) rfl (Nat.le_of_ble_eq_true rfl) (by decide) (by decide) rfl fl_X11_64 (Or.inl rfl) rfl ?_
    refine r_getI dX11_trace_9 (ci := 9) (kf := 1) rfl (Nat.le_of_ble_eq_true rfl) (by decide) (by decide) rfl fl_X11_322 (Or.inl rfl) ?_
    refine r_icmp_ge (tgt := 27) dX11_trace_12 (by decide) (fun c_12 => ?_) (fun c_12 => ?_)
    · (try dsimp only [Gs_M] at c_12)
      refine r_bipush (v := (-3)) dX11_trace_27 (by decide) ?_
      refine r_iret dX11_trace_29 rfl (Nat.le_refl _) ?_
      (try dsimp only [Gs_M])
      refine ⟨_, rfl, ?_, fr.rf⟩
      rw [traceX, if_neg (fun z => (pl_iff (n := t) (by omega) et).mpr z.2 c_12)]
    · (try dsimp only [Gs_M] at c_12)
      obtain ⟨ji, hji, rfl⟩ := rng40 (x := i) (w := M0 45 1) ⟨Int32.not_lt.mp c_1, (pl_iff (n := t) (by omega) et).mp c_12⟩ (n := t) (by omega) et
      refine r_aload_n dX11_trace_15 rfl rfl ?_
      refine r_getR (q := 45) dX11_trace_16 (ci := 11) (kf := 13) rfl (Nat.le_of_ble_eq_true rfl) (by decide) (by decide) rfl fl_X11_64 (Or.inl rfl) rfl ?_
      refine r_getR (q := 46) dX11_trace_19 (ci := 9) (kf := 0) rfl (Nat.le_of_ble_eq_true rfl) (by decide) (by decide) rfl fl_X11_325 (Or.inl rfl) rfl ?_
      refine r_iload_n dX11_trace_22 rfl rfl ?_
      refine r_iald (j := ji) dX11_trace_23 rfl (Nat.le_of_ble_eq_true rfl) rfl (by omega) (by decide) ?_
      refine r_goto (tgt := 29) dX11_trace_24 (by decide) ?_
      refine r_iret dX11_trace_29 rfl (Nat.le_refl _) ?_
      (try dsimp only [Gs_M])
      refine ⟨_, rfl, ?_, fr.rf⟩
      rw [traceX, if_pos ⟨Int32.not_lt.mp c_1, (pl_iff (n := t) (by omega) et).mp c_12⟩, cl_nI (by omega)]
def manC (W : Nat → Int32) (m tp tr w : Int32) : Int32 := if w = 0 then W 6 else if w = 1 then nI (pcR 8 (cl (illR W (plR W)))) else if w = 2 then nI (pcR 8 (cl (cutR (cst W) 8))) else if w = 3 then nI (pcR 8 (cl (pwoR W (plR W)))) else if w = 4 then m else if w = 5 then tp else if w = 6 then tr else -1
set_option maxRecDepth 20000 in
set_option maxHeartbeats 1000000 in
theorem s_X11_many (g : pG) {S : pS} (hS : sOk S) (hI : InvR (vw S 1)) (hN : InvN (vw S 1)) (w : Int32) : MS g mX11_many 4 0 0 [.ref 0, .int w] (S) (eI (fun rx S1 => rx = manC (vw (S) 1) ((S).2.2.2 0 8) ((S).2.2.2 29 1) ((S).2.2.2 45 1) w ∧ fr [8, 9] S S1)) := by
  obtain ⟨M0, rfl⟩ := sOk_gs hS
  obtain ⟨h8, hpl⟩ := hI.pl
  refine MS.of pn_X11 (Nat.le_of_ble_eq_true rfl) ?_
  refine r_iload_n dX11_many_0 rfl rfl ?_
  by_cases e_1_0 : w = 0
  · refine r_tableAt (tgt := 44) 0 dX11_many_1 e_1_0 (by decide) (by decide) rfl (by decide) ?_
    refine r_aload_n dX11_many_44 rfl rfl ?_
    refine r_getR (q := 1) dX11_many_45 (ci := 11) (kf := 0) rfl (Nat.le_of_ble_eq_true rfl) (by decide) (by decide) rfl fl_X11_10 (Or.inl rfl) rfl ?_
    refine r_getI dX11_many_48 (ci := 0) (kf := 6) rfl (Nat.le_of_ble_eq_true rfl) (by decide) (by decide) rfl fl_X11_114 (Or.inl rfl) ?_
    refine r_iret dX11_many_51 rfl (Nat.le_refl _) ?_
    (try dsimp only [Gs_M])
    refine ⟨_, rfl, ?_, fr.rf⟩
    rw [manC, if_pos e_1_0]
    rfl
  by_cases e_1_1 : w = 1
  · refine r_tableAt (tgt := 52) 1 dX11_many_1 e_1_1 (by decide) (by decide) rfl (by decide) ?_
    refine r_aload_n dX11_many_52 rfl rfl ?_
    refine r_getR (q := 1) dX11_many_53 (ci := 11) (kf := 0) rfl (Nat.le_of_ble_eq_true rfl) (by decide) (by decide) rfl fl_X11_10 (Or.inl rfl) rfl ?_
    refine r_callV_dI (ci := 0) dX11_many_56 (s_X0_illPlayers g (CoG (Or.inl rfl)) hI) mf_X0_illPlayers mi_X0_illPlayers se_X0_X0_X0_illPlayers ml_X11_203 rfl rfl (Nat.le_of_ble_eq_true rfl) rfl (by decide) rfl (Nat.le_of_ble_eq_true rfl) ⟨(Nat.le_of_ble_eq_true rfl), (Nat.le_of_ble_eq_true rfl)⟩ ⟨(Nat.le_of_ble_eq_true rfl), (Nat.le_of_ble_eq_true rfl)⟩ ?_
    obtain ⟨n, hn, en⟩ := illB (W := vw (Gs M0) 1) (plR (vw (Gs M0) 1)) h8
    have hn2 := Nat.lt_of_lt_of_le hn (pow_le8 h8)
    rw [en]
    refine r_callS_dI dX11_many_59 (s_J6_bitCount_0f7a4 g n hn2 _) mf_J6_bitCount_0f7a4 mt_J6_bitCount_0f7a4 ml_X11_328 rfl rfl (Nat.le_of_ble_eq_true rfl) ⟨(Nat.le_of_ble_eq_true rfl), (Nat.le_of_ble_eq_true rfl)⟩ ⟨(Nat.le_of_ble_eq_true rfl), (Nat.le_of_ble_eq_true rfl)⟩ ?_
    refine r_iret dX11_many_62 rfl (Nat.le_refl _) ?_
    (try dsimp only [Gs_M])
    refine ⟨_, rfl, ?_, fr.rf⟩
    rw [manC, if_neg e_1_0, if_pos e_1_1]
    rw [en, cl_nI (by omega)]
  by_cases e_1_2 : w = 2
  · refine r_tableAt (tgt := 63) 2 dX11_many_1 e_1_2 (by decide) (by decide) rfl (by decide) ?_
    refine r_aload_n dX11_many_63 rfl rfl ?_
    refine r_getR (q := 1) dX11_many_64 (ci := 11) (kf := 0) rfl (Nat.le_of_ble_eq_true rfl) (by decide) (by decide) rfl fl_X11_10 (Or.inl rfl) rfl ?_
    refine r_callV_eV (ci := 0) dX11_many_67 (s_X0_makeBill g (CoG (Or.inl rfl)) hI hN) mf_X0_makeBill mi_X0_makeBill se_X0_X0_X0_makeBill ml_X11_133 rfl rfl (Nat.le_of_ble_eq_true rfl) rfl (by decide) rfl (Nat.le_of_ble_eq_true rfl) ⟨(Nat.le_of_ble_eq_true rfl), (Nat.le_of_ble_eq_true rfl)⟩ ⟨(Nat.le_of_ble_eq_true rfl), (Nat.le_of_ble_eq_true rfl)⟩ (fun S_67 q_67 z_67 => ?_)
    obtain ⟨f67, bc67, br67⟩ := q_67
    obtain ⟨Ma, rfl⟩ := sOk_gs (f67.ok hS)
    have hcc : cOk ((Gs Ma).2.2.2 (1 + 7)) := fun x hx => by rw [bc67 x hx]; exact cst_ok hI x hx
    refine r_aload_n dX11_many_70 rfl rfl ?_
    refine r_getR (q := 1) dX11_many_71 (ci := 11) (kf := 0) rfl (Nat.le_of_ble_eq_true rfl) (by decide) (by decide) rfl fl_X11_10 (Or.inl rfl) rfl ?_
    refine r_callV_dI (ci := 0) dX11_many_74 (s_X0_cutParts g (CoG (Or.inl rfl)) hcc) mf_X0_cutParts mi_X0_cutParts se_X0_X0_X0_cutParts ml_X11_200 rfl rfl (Nat.le_of_ble_eq_true rfl) rfl (by decide) rfl (Nat.le_of_ble_eq_true rfl) ⟨(Nat.le_of_ble_eq_true rfl), (Nat.le_of_ble_eq_true rfl)⟩ ⟨(Nat.le_of_ble_eq_true rfl), (Nat.le_of_ble_eq_true rfl)⟩ ?_
    obtain ⟨n, hn, en⟩ := cutB (c := cst (vw (Gs M0) 1)) 8 (by omega)
    rw [show cutR ((Gs Ma).2.2.2 (1 + 7)) 8 = nI n from (cutR_cong bc67 8 (Nat.le_refl _)).trans en]
    refine r_callS_dI dX11_many_77 (s_J6_bitCount_0f7a4 g n hn _) mf_J6_bitCount_0f7a4 mt_J6_bitCount_0f7a4 ml_X11_328 rfl rfl (Nat.le_of_ble_eq_true rfl) ⟨(Nat.le_of_ble_eq_true rfl), (Nat.le_of_ble_eq_true rfl)⟩ ⟨(Nat.le_of_ble_eq_true rfl), (Nat.le_of_ble_eq_true rfl)⟩ ?_
    refine r_iret dX11_many_80 rfl (Nat.le_refl _) ?_
    (try dsimp only [Gs_M])
    refine ⟨_, rfl, ?_, f67⟩
    rw [manC, if_neg e_1_0, if_neg e_1_1, if_pos e_1_2]
    rw [en, cl_nI (by omega)]
  by_cases e_1_3 : w = 3
  · refine r_tableAt (tgt := 81) 3 dX11_many_1 e_1_3 (by decide) (by decide) rfl (by decide) ?_
    refine r_aload_n dX11_many_81 rfl rfl ?_
    refine r_getR (q := 1) dX11_many_82 (ci := 11) (kf := 0) rfl (Nat.le_of_ble_eq_true rfl) (by decide) (by decide) rfl fl_X11_10 (Or.inl rfl) rfl ?_
    refine r_callV_dI (ci := 0) dX11_many_85 (s_X0_partsOwned g (CoG (Or.inl rfl)) hI) mf_X0_partsOwned mi_X0_partsOwned se_X0_X0_X0_partsOwned ml_X11_333 rfl rfl (Nat.le_of_ble_eq_true rfl) rfl (by decide) rfl (Nat.le_of_ble_eq_true rfl) ⟨(Nat.le_of_ble_eq_true rfl), (Nat.le_of_ble_eq_true rfl)⟩ ⟨(Nat.le_of_ble_eq_true rfl), (Nat.le_of_ble_eq_true rfl)⟩ ?_
    refine r_iret dX11_many_88 rfl (Nat.le_refl _) ?_
    (try dsimp only [Gs_M])
    refine ⟨_, rfl, ?_, fr.rf⟩
    rw [manC, if_neg e_1_0, if_neg e_1_1, if_neg e_1_2, if_pos e_1_3]
  by_cases e_1_4 : w = 4
  · refine r_tableAt (tgt := 89) 4 dX11_many_1 e_1_4 (by decide) (by decide) rfl (by decide) ?_
    refine r_aload_n dX11_many_89 rfl rfl ?_
    refine r_getI dX11_many_90 (ci := 11) (kf := 8) rfl (Nat.le_of_ble_eq_true rfl) (by decide) (by decide) rfl fl_X11_111 (Or.inl rfl) ?_
    refine r_iret dX11_many_93 rfl (Nat.le_refl _) ?_
    (try dsimp only [Gs_M])
    refine ⟨_, rfl, ?_, fr.rf⟩
    rw [manC, if_neg e_1_0, if_neg e_1_1, if_neg e_1_2, if_neg e_1_3, if_pos e_1_4]
  by_cases e_1_5 : w = 5
  · refine r_tableAt (tgt := 94) 5 dX11_many_1 e_1_5 (by decide) (by decide) rfl (by decide) ?_
    refine r_aload_n dX11_many_94 rfl rfl ?_
    refine r_getR (q := 29) dX11_many_95 (ci := 11) (kf := 5) rfl (Nat.le_of_ble_eq_true rfl) (by decide) (by decide) rfl fl_X11_34 (Or.inl rfl) rfl ?_
    refine r_getI dX11_many_98 (ci := 8) (kf := 1) rfl (Nat.le_of_ble_eq_true rfl) (by decide) (by decide) rfl fl_X11_96 (Or.inl rfl) ?_
    refine r_iret dX11_many_101 rfl (Nat.le_refl _) ?_
    (try dsimp only [Gs_M])
    refine ⟨_, rfl, ?_, fr.rf⟩
    rw [manC, if_neg e_1_0, if_neg e_1_1, if_neg e_1_2, if_neg e_1_3, if_neg e_1_4, if_pos e_1_5]
  by_cases e_1_6 : w = 6
  · refine r_tableAt (tgt := 102) 6 dX11_many_1 e_1_6 (by decide) (by decide) rfl (by decide) ?_
    refine r_aload_n dX11_many_102 rfl rfl ?_
    refine r_getR (q := 45) dX11_many_103 (ci := 11) (kf := 13) rfl (Nat.le_of_ble_eq_true rfl) (by decide) (by decide) rfl fl_X11_64 (Or.inl rfl) rfl ?_
    refine r_getI dX11_many_106 (ci := 9) (kf := 1) rfl (Nat.le_of_ble_eq_true rfl) (by decide) (by decide) rfl fl_X11_322 (Or.inl rfl) ?_
    refine r_iret dX11_many_109 rfl (Nat.le_refl _) ?_
    (try dsimp only [Gs_M])
    refine ⟨_, rfl, ?_, fr.rf⟩
    rw [manC, if_neg e_1_0, if_neg e_1_1, if_neg e_1_2, if_neg e_1_3, if_neg e_1_4, if_neg e_1_5, if_pos e_1_6]
  refine r_tableOut (tgt := 110) dX11_many_1 (out_of2 (lo := 0) (n := 6) (by decide) (fun j hl hj => ?_)) (by decide) ?_
  · rcases (by omega : j = 0 ∨ j = 1 ∨ j = 2 ∨ j = 3 ∨ j = 4 ∨ j = 5 ∨ j = 6) with rfl | rfl | rfl | rfl | rfl | rfl | rfl
    · exact e_1_0
    · exact e_1_1
    · exact e_1_2
    · exact e_1_3
    · exact e_1_4
    · exact e_1_5
    · exact e_1_6
  refine r_iconst (v := (-1)) dX11_many_110 (by decide) ?_
  refine r_iret dX11_many_111 rfl (Nat.le_refl _) ?_
  (try dsimp only [Gs_M])
  refine ⟨_, rfl, ?_, fr.rf⟩
  rw [manC, if_neg e_1_0, if_neg e_1_1, if_neg e_1_2, if_neg e_1_3, if_neg e_1_4, if_neg e_1_5, if_neg e_1_6]
set_option maxRecDepth 20000 in
set_option maxHeartbeats 1000000 in
theorem s_X11_keep (g : pG) {S : pS} (hS : sOk S) : MS g mX11_keep 2 0 0 [.ref 0] (S) (eI (fun rx S1 => rx = 1 ∧ fr [0, 19, 20, 21, 22, 23, 24, 25] S S1 ∧ vw S1 19 = vw S 1 ∧ S1.2.2.2 0 3 = 1 ∧ ∀ f, f ≠ 3 → S1.2.2.2 0 f = S.2.2.2 0 f)) := by
  obtain ⟨M0, rfl⟩ := sOk_gs hS
  refine MS.of pn_X11 (Nat.le_of_ble_eq_true rfl) ?_
  refine r_aload_n dX11_keep_0 rfl rfl ?_
  refine r_getR (q := 19) dX11_keep_1 (ci := 11) (kf := 2) rfl (Nat.le_of_ble_eq_true rfl) (by decide) (by decide) rfl fl_X11_19 (Or.inl rfl) rfl ?_
  refine r_aload_n dX11_keep_4 rfl rfl ?_
  refine r_getR (q := 1) dX11_keep_5 (ci := 11) (kf := 0) rfl (Nat.le_of_ble_eq_true rfl) (by decide) (by decide) rfl fl_X11_10 (Or.inl rfl) rfl ?_
  refine r_callV_eV (ci := 0) dX11_keep_8 (s_X0_copyFrom g (CoG (Or.inr (Or.inr rfl))) (CoG (Or.inl rfl)) (Or.inl (by decide))) mf_X0_copyFrom mi_X0_copyFrom se_X0_X0_X0_copyFrom ml_X11_107 rfl rfl (Nat.le_of_ble_eq_true rfl) rfl (by decide) rfl (Nat.le_of_ble_eq_true rfl) ⟨(Nat.le_of_ble_eq_true rfl), (Nat.le_of_ble_eq_true rfl)⟩ ⟨(Nat.le_of_ble_eq_true rfl), (Nat.le_of_ble_eq_true rfl)⟩ (fun S_8 q_8 z_8 => ?_)
  obtain ⟨f8, v8⟩ := q_8
  obtain ⟨Ma, rfl⟩ := sOk_gs (f8.ok hS)
  refine r_aload_n dX11_keep_11 rfl rfl ?_
  refine r_iconst (v := 1) dX11_keep_12 (by decide) ?_
  refine r_putI dX11_keep_13 (ci := 11) (kf := 3) rfl (Nat.le_of_ble_eq_true rfl) (by decide) (by decide) rfl fl_X11_336 (Or.inl rfl) rfl rfl rfl ?_
  refine r_iconst (v := 1) dX11_keep_16 (by decide) ?_
  refine r_iret dX11_keep_17 rfl (Nat.le_refl _) ?_
  (try dsimp only [Gs_M])
  refine ⟨_, rfl, rfl, (f8.mono (by decide)).set (by decide), ?_, ?_, fun f hf => ?_⟩
  · rw [vw_ne (by omega)]; exact v8
  · rw [mSet_at, pk_us]
  · rw [mSet_at, pk_un hf]; exact congrFun (f8.2 0 (by decide)) f
def agX (k : Int32) (K : Nat → Int32) : Int32 := if k = 0 then -3 else K 6
def agW (k : Int32) (K W : Nat → Int32) : Nat → Int32 := if k = 0 then W else K
set_option maxRecDepth 20000 in
set_option maxHeartbeats 1000000 in
theorem s_X11_again (g : pG) {S : pS} (hS : sOk S) : MS g mX11_again 2 0 0 [.ref 0] (S) (eI (fun rx S1 => rx = agX (S.2.2.2 0 3) (vw S 19) ∧ fr [1, 2, 3, 4, 5, 6, 7] S S1 ∧ vw S1 1 = agW (S.2.2.2 0 3) (vw S 19) (vw S 1))) := by
  obtain ⟨M0, rfl⟩ := sOk_gs hS
  refine MS.of pn_X11 (Nat.le_of_ble_eq_true rfl) ?_
  refine r_aload_n dX11_again_0 rfl rfl ?_
  refine r_getI dX11_again_1 (ci := 11) (kf := 3) rfl (Nat.le_of_ble_eq_true rfl) (by decide) (by decide) rfl fl_X11_336 (Or.inl rfl) ?_
  refine r_if_ne (tgt := 10) dX11_again_4 (by decide) (fun c_4 => ?_) (fun c_4 => ?_)
  · (try dsimp only [Gs_M] at c_4)
    refine r_aload_n dX11_again_10 rfl rfl ?_
    refine r_getR (q := 1) dX11_again_11 (ci := 11) (kf := 0) rfl (Nat.le_of_ble_eq_true rfl) (by decide) (by decide) rfl fl_X11_10 (Or.inl rfl) rfl ?_
    refine r_aload_n dX11_again_14 rfl rfl ?_
    refine r_getR (q := 19) dX11_again_15 (ci := 11) (kf := 2) rfl (Nat.le_of_ble_eq_true rfl) (by decide) (by decide) rfl fl_X11_19 (Or.inl rfl) rfl ?_
    refine r_callV_eV (ci := 0) dX11_again_18 (s_X0_copyFrom g (CoG (Or.inl rfl)) (CoG (Or.inr (Or.inr rfl))) (Or.inr (by decide))) mf_X0_copyFrom mi_X0_copyFrom se_X0_X0_X0_copyFrom ml_X11_107 rfl rfl (Nat.le_of_ble_eq_true rfl) rfl (by decide) rfl (Nat.le_of_ble_eq_true rfl) ⟨(Nat.le_of_ble_eq_true rfl), (Nat.le_of_ble_eq_true rfl)⟩ ⟨(Nat.le_of_ble_eq_true rfl), (Nat.le_of_ble_eq_true rfl)⟩ (fun S_18 q_18 z_18 => ?_)
    obtain ⟨f18, v18⟩ := q_18
    obtain ⟨Ma, rfl⟩ := sOk_gs (f18.ok hS)
    refine r_aload_n dX11_again_21 rfl rfl ?_
    refine r_getR (q := 1) dX11_again_22 (ci := 11) (kf := 0) rfl (Nat.le_of_ble_eq_true rfl) (by decide) (by decide) rfl fl_X11_10 (Or.inl rfl) rfl ?_
    refine r_getI dX11_again_25 (ci := 0) (kf := 6) rfl (Nat.le_of_ble_eq_true rfl) (by decide) (by decide) rfl fl_X11_114 (Or.inl rfl) ?_
    refine r_iret dX11_again_28 rfl (Nat.le_refl _) ?_
    (try dsimp only [Gs_M])
    refine ⟨_, rfl, ?_, f18.mono (by decide), ?_⟩
    · rw [agX, if_neg c_4, ← v18]
      rfl
    · rw [agW, if_neg c_4]
      exact v18
  · (try dsimp only [Gs_M] at c_4)
    refine r_bipush (v := (-3)) dX11_again_7 (by decide) ?_
    refine r_iret dX11_again_9 rfl (Nat.le_refl _) ?_
    (try dsimp only [Gs_M])
    refine ⟨_, rfl, ?_, fr.rf, ?_⟩
    · rw [agX, if_pos c_4]
    · rw [agW, if_pos c_4]
