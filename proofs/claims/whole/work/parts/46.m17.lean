set_option maxRecDepth 20000 in
set_option maxHeartbeats 1000000 in
theorem s_X12_shelf (g : pG) {S : pS} (hS : sOk S) (a what n : Int32) : MS g mX12_shelf 3 0 0 [.ref 54, .int a, .int what, .int n] (S) (eI (fun rx S1 => rx = shelfX ((S).2.2.2 55) a what n ∧ kp [68, 69] (S) S1 ∧ S1.2.2.2 68 = shelfH ((S).2.2.2 55) ((S).2.2.2 65) ((S).2.2.2 68) a what n ∧ S1.2.2.2 69 = shelfO ((S).2.2.2 55) ((S).2.2.2 66) ((S).2.2.2 69) a what n)) := by
  obtain ⟨M0, rfl⟩ := sOk_gs hS
  refine MS.of pn_X12 (Nat.le_of_ble_eq_true rfl) ?_
  refine r_iload_n dX12_shelf_0 rfl rfl ?_
  refine r_callS_dI dX12_shelf_1 (s_X12_isSheet g _ _) mf_X12_isSheet mt_X12_isSheet ml_X12_230 rfl rfl (Nat.le_of_ble_eq_true rfl) ⟨(Nat.le_of_ble_eq_true rfl), (Nat.le_of_ble_eq_true rfl)⟩ ⟨(Nat.le_of_ble_eq_true rfl), (Nat.le_of_ble_eq_true rfl)⟩ ?_
  refine r_if_eq (tgt := 40) dX12_shelf_4 (by decide) (fun c_4 => ?_) (fun c_4 => ?_)
  · have c_4 := bI_0 c_4
    (try dsimp only [Gs_M] at c_4)
    refine r_iconst (v := (-1)) dX12_shelf_40 (by decide) ?_
    refine r_iret dX12_shelf_41 rfl (Nat.le_refl _) ?_
    (try dsimp only [Gs_M])
    have na : ¬ slA (M0 55) a what n := fun z => c_4 z.1
    refine ⟨_, rfl, ?_, kp.rf hS, ?_, ?_⟩
    · rw [shelfX, if_neg na]
    · rw [shelfH, if_neg na]
      rfl
    · rw [shelfO, if_neg na]
      rfl
  · have c_4 := bI_n c_4
    (try dsimp only [Gs_M] at c_4)
    refine r_iload_n dX12_shelf_7 rfl rfl ?_
    refine r_iconst (v := 0) dX12_shelf_8 (by decide) ?_
    refine r_iconst (v := 2) dX12_shelf_9 (by decide) ?_
    refine r_callS_dI dX12_shelf_10 (s_X12_in1 g _ _ _ _) mf_X12_in1 mt_X12_in1 ml_X12_63 rfl rfl (Nat.le_of_ble_eq_true rfl) ⟨(Nat.le_of_ble_eq_true rfl), (Nat.le_of_ble_eq_true rfl)⟩ ⟨(Nat.le_of_ble_eq_true rfl), (Nat.le_of_ble_eq_true rfl)⟩ ?_
    refine r_if_eq (tgt := 40) dX12_shelf_13 (by decide) (fun c_13 => ?_) (fun c_13 => ?_)
    · have c_13 := bI_0 c_13
      (try dsimp only [Gs_M] at c_13)
      refine r_iconst (v := (-1)) dX12_shelf_40 (by decide) ?_
      refine r_iret dX12_shelf_41 rfl (Nat.le_refl _) ?_
      (try dsimp only [Gs_M])
      have na : ¬ slA (M0 55) a what n := fun z => c_13 z.2.1
      refine ⟨_, rfl, ?_, kp.rf hS, ?_, ?_⟩
      · rw [shelfX, if_neg na]
      · rw [shelfH, if_neg na]
        rfl
      · rw [shelfO, if_neg na]
        rfl
    · have c_13 := bI_n c_13
      (try dsimp only [Gs_M] at c_13)
      refine r_iload_n dX12_shelf_16 rfl rfl ?_
      refine r_if_ne (tgt := 28) dX12_shelf_17 (by decide) (fun c_17 => ?_) (fun c_17 => ?_)
      · (try dsimp only [Gs_M] at c_17)
        refine r_iload_n dX12_shelf_28 rfl rfl ?_
        refine r_iconst (v := 1) dX12_shelf_29 (by decide) ?_
        refine r_icmp_ne (tgt := 42) dX12_shelf_30 (by decide) (fun c_30 => ?_) (fun c_30 => ?_)
        · (try dsimp only [Gs_M] at c_30)
          obtain ⟨ja, hja, rfl⟩ := rng (x := a) 3 (by decide) c_4
          refine r_aload_n dX12_shelf_42 rfl rfl ?_
          refine r_getR (q := 68) dX12_shelf_43 (ci := 12) (kf := 21) rfl (Nat.le_of_ble_eq_true rfl) (by decide) (by decide) rfl fl_X12_50 (Or.inl rfl) rfl ?_
          refine r_iload_n dX12_shelf_46 rfl rfl ?_
          refine r_iload_n dX12_shelf_47 rfl rfl ?_
          refine r_if_ne (tgt := 55) dX12_shelf_48 (by decide) (fun c_48 => ?_) (fun c_48 => ?_)
          · (try dsimp only [Gs_M] at c_48)
            refine r_iload_n dX12_shelf_55 rfl rfl ?_
            refine r_iconst (v := 1) dX12_shelf_56 (by decide) ?_
            refine r_icmp_ne (tgt := 81) dX12_shelf_57 (by decide) (fun c_57 => ?_) (fun c_57 => ?_)
            · (try dsimp only [Gs_M] at c_57)
              refine r_iconst (v := (-1)) dX12_shelf_81 (by decide) ?_
              refine r_iast (j := ja) dX12_shelf_82 rfl (Nat.le_of_ble_eq_true rfl) rfl (by omega) (by decide) ?_
              refine r_aload_n dX12_shelf_83 rfl rfl ?_
              refine r_getR (q := 69) dX12_shelf_84 (ci := 12) (kf := 22) rfl (Nat.le_of_ble_eq_true rfl) (by decide) (by decide) rfl fl_X12_53 (Or.inl rfl) rfl ?_
              refine r_iload_n dX12_shelf_87 rfl rfl ?_
              refine r_iload_n dX12_shelf_88 rfl rfl ?_
              refine r_if_ne (tgt := 96) dX12_shelf_89 (by decide) (fun c_89 => ?_) (fun c_89 => ?_)
              · (try dsimp only [Gs_M] at c_89)
                refine r_iload_n dX12_shelf_96 rfl rfl ?_
                refine r_iconst (v := 1) dX12_shelf_97 (by decide) ?_
                refine r_icmp_ne (tgt := 110) dX12_shelf_98 (by decide) (fun c_98 => ?_) (fun c_98 => ?_)
                · (try dsimp only [Gs_M] at c_98)
                  refine r_iconst (v := 0) dX12_shelf_110 (by decide) ?_
                  refine r_iast (j := ja) dX12_shelf_111 rfl (Nat.le_of_ble_eq_true rfl) rfl (by omega) (by decide) ?_
                  refine r_iconst (v := 1) dX12_shelf_112 (by decide) ?_
                  refine r_iret dX12_shelf_113 rfl (Nat.le_refl _) ?_
                  (try dsimp only [Gs_M])
                  have hA : slA (M0 55) (nI ja) what n := ⟨c_4, c_13, fun z => absurd z c_17, fun z => absurd z c_30⟩
                  refine ⟨_, rfl, ?_, ((kp.rf hS).set (by decide) (by decide)).set (by decide) (by decide), ?_, ?_⟩
                  · rw [shelfX, if_pos hA]
                  · rw [mSet_ne (by decide), mSet_at, shelfH, if_pos hA, cl_nI (by omega), if_neg c_17, if_neg (fun z => c_30 z.1)]
                    rfl
                  · rw [mSet_at, mSet_ne (by decide), shelfO, if_pos hA, cl_nI (by omega), if_neg c_17, if_neg c_30]
                    rfl
                · (try dsimp only [Gs_M] at c_98)
                  exact absurd c_98 c_30
              · (try dsimp only [Gs_M] at c_89)
                exact absurd c_89 c_17
            · (try dsimp only [Gs_M] at c_57)
              exact absurd c_57 c_30
          · (try dsimp only [Gs_M] at c_48)
            exact absurd c_48 c_17
        · (try dsimp only [Gs_M] at c_30)
          refine r_iload_n dX12_shelf_33 rfl rfl ?_
          refine r_callS_dI dX12_shelf_34 (s_X12_isSheet g _ _) mf_X12_isSheet mt_X12_isSheet ml_X12_230 rfl rfl (Nat.le_of_ble_eq_true rfl) ⟨(Nat.le_of_ble_eq_true rfl), (Nat.le_of_ble_eq_true rfl)⟩ ⟨(Nat.le_of_ble_eq_true rfl), (Nat.le_of_ble_eq_true rfl)⟩ ?_
          refine r_if_ne (tgt := 42) dX12_shelf_37 (by decide) (fun c_37 => ?_) (fun c_37 => ?_)
          · have c_37 := bI_n c_37
            (try dsimp only [Gs_M] at c_37)
            obtain ⟨jn, hjn, rfl⟩ := rng (x := n) 3 (by decide) c_37
            obtain ⟨ja, hja, rfl⟩ := rng (x := a) 3 (by decide) c_4
            refine r_aload_n dX12_shelf_42 rfl rfl ?_
            refine r_getR (q := 68) dX12_shelf_43 (ci := 12) (kf := 21) rfl (Nat.le_of_ble_eq_true rfl) (by decide) (by decide) rfl fl_X12_50 (Or.inl rfl) rfl ?_
            refine r_iload_n dX12_shelf_46 rfl rfl ?_
            refine r_iload_n dX12_shelf_47 rfl rfl ?_
            refine r_if_ne (tgt := 55) dX12_shelf_48 (by decide) (fun c_48 => ?_) (fun c_48 => ?_)
            · (try dsimp only [Gs_M] at c_48)
              refine r_iload_n dX12_shelf_55 rfl rfl ?_
              refine r_iconst (v := 1) dX12_shelf_56 (by decide) ?_
              refine r_icmp_ne (tgt := 81) dX12_shelf_57 (by decide) (fun c_57 => ?_) (fun c_57 => ?_)
              · (try dsimp only [Gs_M] at c_57)
                exact absurd c_30 c_57
              · (try dsimp only [Gs_M] at c_57)
                refine r_aload_n dX12_shelf_60 rfl rfl ?_
                refine r_getR (q := 65) dX12_shelf_61 (ci := 12) (kf := 18) rfl (Nat.le_of_ble_eq_true rfl) (by decide) (by decide) rfl fl_X12_41 (Or.inl rfl) rfl ?_
                refine r_iload_n dX12_shelf_64 rfl rfl ?_
                refine r_iald (j := jn) dX12_shelf_65 rfl (Nat.le_of_ble_eq_true rfl) rfl (by omega) (by decide) ?_
                refine r_if_lt (tgt := 81) dX12_shelf_66 (by decide) (fun c_66 => ?_) (fun c_66 => ?_)
                · (try dsimp only [Gs_M] at c_66)
                  refine r_iconst (v := (-1)) dX12_shelf_81 (by decide) ?_
                  refine r_iast (j := ja) dX12_shelf_82 rfl (Nat.le_of_ble_eq_true rfl) rfl (by omega) (by decide) ?_
                  refine r_aload_n dX12_shelf_83 rfl rfl ?_
                  refine r_getR (q := 69) dX12_shelf_84 (ci := 12) (kf := 22) rfl (Nat.le_of_ble_eq_true rfl) (by decide) (by decide) rfl fl_X12_53 (Or.inl rfl) rfl ?_
                  refine r_iload_n dX12_shelf_87 rfl rfl ?_
                  refine r_iload_n dX12_shelf_88 rfl rfl ?_
                  refine r_if_ne (tgt := 96) dX12_shelf_89 (by decide) (fun c_89 => ?_) (fun c_89 => ?_)
                  · (try dsimp only [Gs_M] at c_89)
                    refine r_iload_n dX12_shelf_96 rfl rfl ?_
                    refine r_iconst (v := 1) dX12_shelf_97 (by decide) ?_
                    refine r_icmp_ne (tgt := 110) dX12_shelf_98 (by decide) (fun c_98 => ?_) (fun c_98 => ?_)
                    · (try dsimp only [Gs_M] at c_98)
                      exact absurd c_30 c_98
                    · (try dsimp only [Gs_M] at c_98)
                      refine r_aload_n dX12_shelf_101 rfl rfl ?_
                      refine r_getR (q := 66) dX12_shelf_102 (ci := 12) (kf := 19) rfl (Nat.le_of_ble_eq_true rfl) (by decide) (by decide) rfl fl_X12_44 (Or.inl rfl) rfl ?_
                      refine r_iload_n dX12_shelf_105 rfl rfl ?_
                      refine r_iald (j := jn) dX12_shelf_106 rfl (Nat.le_of_ble_eq_true rfl) rfl (by omega) (by decide) ?_
                      refine r_goto (tgt := 111) dX12_shelf_107 (by decide) ?_
                      refine r_iast (j := ja) dX12_shelf_111 rfl (Nat.le_of_ble_eq_true rfl) rfl (by omega) (by decide) ?_
                      refine r_iconst (v := 1) dX12_shelf_112 (by decide) ?_
                      refine r_iret dX12_shelf_113 rfl (Nat.le_refl _) ?_
                      (try dsimp only [Gs_M])
                      have hA : slA (M0 55) (nI ja) what (nI jn) := ⟨c_4, c_13, fun z => absurd z c_17, fun _ => c_37⟩
                      refine ⟨_, rfl, ?_, ((kp.rf hS).set (by decide) (by decide)).set (by decide) (by decide), ?_, ?_⟩
                      · rw [shelfX, if_pos hA]
                      · rw [mSet_ne (by decide), mSet_at, shelfH, if_pos hA, cl_nI (by omega), if_neg c_17, cl_nI (by omega), if_neg (fun z => z.2 c_66)]
                        rfl
                      · rw [mSet_at, mSet_ne (by decide), shelfO, if_pos hA, cl_nI (by omega), if_neg c_17, if_pos c_30, cl_nI (by omega)]
                        rfl
                  · (try dsimp only [Gs_M] at c_89)
                    exact absurd c_89 c_17
                · (try dsimp only [Gs_M] at c_66)
                  refine r_bipush (v := 10) dX12_shelf_69 (by decide) ?_
                  refine r_aload_n dX12_shelf_71 rfl rfl ?_
                  refine r_getR (q := 65) dX12_shelf_72 (ci := 12) (kf := 18) rfl (Nat.le_of_ble_eq_true rfl) (by decide) (by decide) rfl fl_X12_41 (Or.inl rfl) rfl ?_
                  refine r_iload_n dX12_shelf_75 rfl rfl ?_
                  refine r_iald (j := jn) dX12_shelf_76 rfl (Nat.le_of_ble_eq_true rfl) rfl (by omega) (by decide) ?_
                  refine r_iadd dX12_shelf_77 ?_
                  refine r_goto (tgt := 82) dX12_shelf_78 (by decide) ?_
                  refine r_iast (j := ja) dX12_shelf_82 rfl (Nat.le_of_ble_eq_true rfl) rfl (by omega) (by decide) ?_
                  refine r_aload_n dX12_shelf_83 rfl rfl ?_
                  refine r_getR (q := 69) dX12_shelf_84 (ci := 12) (kf := 22) rfl (Nat.le_of_ble_eq_true rfl) (by decide) (by decide) rfl fl_X12_53 (Or.inl rfl) rfl ?_
                  refine r_iload_n dX12_shelf_87 rfl rfl ?_
                  refine r_iload_n dX12_shelf_88 rfl rfl ?_
                  refine r_if_ne (tgt := 96) dX12_shelf_89 (by decide) (fun c_89 => ?_) (fun c_89 => ?_)
                  · (try dsimp only [Gs_M] at c_89)
                    refine r_iload_n dX12_shelf_96 rfl rfl ?_
                    refine r_iconst (v := 1) dX12_shelf_97 (by decide) ?_
                    refine r_icmp_ne (tgt := 110) dX12_shelf_98 (by decide) (fun c_98 => ?_) (fun c_98 => ?_)
                    · (try dsimp only [Gs_M] at c_98)
                      exact absurd c_30 c_98
                    · (try dsimp only [Gs_M] at c_98)
                      refine r_aload_n dX12_shelf_101 rfl rfl ?_
                      refine r_getR (q := 66) dX12_shelf_102 (ci := 12) (kf := 19) rfl (Nat.le_of_ble_eq_true rfl) (by decide) (by decide) rfl fl_X12_44 (Or.inl rfl) rfl ?_
                      refine r_iload_n dX12_shelf_105 rfl rfl ?_
                      refine r_iald (j := jn) dX12_shelf_106 rfl (Nat.le_of_ble_eq_true rfl) rfl (by omega) (by decide) ?_
                      refine r_goto (tgt := 111) dX12_shelf_107 (by decide) ?_
                      refine r_iast (j := ja) dX12_shelf_111 rfl (Nat.le_of_ble_eq_true rfl) rfl (by omega) (by decide) ?_
                      refine r_iconst (v := 1) dX12_shelf_112 (by decide) ?_
                      refine r_iret dX12_shelf_113 rfl (Nat.le_refl _) ?_
                      (try dsimp only [Gs_M])
                      have hA : slA (M0 55) (nI ja) what (nI jn) := ⟨c_4, c_13, fun z => absurd z c_17, fun _ => c_37⟩
                      refine ⟨_, rfl, ?_, ((kp.rf hS).set (by decide) (by decide)).set (by decide) (by decide), ?_, ?_⟩
                      · rw [shelfX, if_pos hA]
                      · rw [mSet_ne (by decide), mSet_at, shelfH, if_pos hA, cl_nI (by omega), if_neg c_17, cl_nI (by omega), if_pos ⟨c_30, c_66⟩]
                        rfl
                      · rw [mSet_at, mSet_ne (by decide), shelfO, if_pos hA, cl_nI (by omega), if_neg c_17, if_pos c_30, cl_nI (by omega)]
                        rfl
                  · (try dsimp only [Gs_M] at c_89)
                    exact absurd c_89 c_17
            · (try dsimp only [Gs_M] at c_48)
              exact absurd c_48 c_17
          · have c_37 := bI_0 c_37
            (try dsimp only [Gs_M] at c_37)
            refine r_iconst (v := (-1)) dX12_shelf_40 (by decide) ?_
            refine r_iret dX12_shelf_41 rfl (Nat.le_refl _) ?_
            (try dsimp only [Gs_M])
            have na : ¬ slA (M0 55) a what n := fun z => c_37 (z.2.2.2 c_30)
            refine ⟨_, rfl, ?_, kp.rf hS, ?_, ?_⟩
            · rw [shelfX, if_neg na]
            · rw [shelfH, if_neg na]
              rfl
            · rw [shelfO, if_neg na]
              rfl
      · (try dsimp only [Gs_M] at c_17)
        refine r_aload_n dX12_shelf_20 rfl rfl ?_
        refine r_iload_n dX12_shelf_21 rfl rfl ?_
        refine r_callV_dI (ci := 12) dX12_shelf_22 (s_X12_isPlayer g (by exact ⟨rfl, rfl, rfl⟩) _) mf_X12_isPlayer mi_X12_isPlayer se_X12_X12_X12_isPlayer ml_X12_188 rfl rfl (Nat.le_of_ble_eq_true rfl) rfl (by decide) rfl (Nat.le_of_ble_eq_true rfl) ⟨(Nat.le_of_ble_eq_true rfl), (Nat.le_of_ble_eq_true rfl)⟩ ⟨(Nat.le_of_ble_eq_true rfl), (Nat.le_of_ble_eq_true rfl)⟩ ?_
        refine r_if_eq (tgt := 40) dX12_shelf_25 (by decide) (fun c_25 => ?_) (fun c_25 => ?_)
        · have c_25 := bI_0 c_25
          (try dsimp only [Gs_M] at c_25)
          refine r_iconst (v := (-1)) dX12_shelf_40 (by decide) ?_
          refine r_iret dX12_shelf_41 rfl (Nat.le_refl _) ?_
          (try dsimp only [Gs_M])
          have na : ¬ slA (M0 55) a what n := fun z => c_25 (z.2.2.1 c_17)
          refine ⟨_, rfl, ?_, kp.rf hS, ?_, ?_⟩
          · rw [shelfX, if_neg na]
          · rw [shelfH, if_neg na]
            rfl
          · rw [shelfO, if_neg na]
            rfl
        · have c_25 := bI_n c_25
          (try dsimp only [Gs_M] at c_25)
          refine r_iload_n dX12_shelf_28 rfl rfl ?_
          refine r_iconst (v := 1) dX12_shelf_29 (by decide) ?_
          refine r_icmp_ne (tgt := 42) dX12_shelf_30 (by decide) (fun c_30 => ?_) (fun c_30 => ?_)
          · (try dsimp only [Gs_M] at c_30)
            obtain ⟨ja, hja, rfl⟩ := rng (x := a) 3 (by decide) c_4
            refine r_aload_n dX12_shelf_42 rfl rfl ?_
            refine r_getR (q := 68) dX12_shelf_43 (ci := 12) (kf := 21) rfl (Nat.le_of_ble_eq_true rfl) (by decide) (by decide) rfl fl_X12_50 (Or.inl rfl) rfl ?_
            refine r_iload_n dX12_shelf_46 rfl rfl ?_
            refine r_iload_n dX12_shelf_47 rfl rfl ?_
            refine r_if_ne (tgt := 55) dX12_shelf_48 (by decide) (fun c_48 => ?_) (fun c_48 => ?_)
            · (try dsimp only [Gs_M] at c_48)
              exact absurd c_17 c_48
            · (try dsimp only [Gs_M] at c_48)
              refine r_iconst (v := 0) dX12_shelf_51 (by decide) ?_
              refine r_goto (tgt := 82) dX12_shelf_52 (by decide) ?_
              refine r_iast (j := ja) dX12_shelf_82 rfl (Nat.le_of_ble_eq_true rfl) rfl (by omega) (by decide) ?_
              refine r_aload_n dX12_shelf_83 rfl rfl ?_
              refine r_getR (q := 69) dX12_shelf_84 (ci := 12) (kf := 22) rfl (Nat.le_of_ble_eq_true rfl) (by decide) (by decide) rfl fl_X12_53 (Or.inl rfl) rfl ?_
              refine r_iload_n dX12_shelf_87 rfl rfl ?_
              refine r_iload_n dX12_shelf_88 rfl rfl ?_
              refine r_if_ne (tgt := 96) dX12_shelf_89 (by decide) (fun c_89 => ?_) (fun c_89 => ?_)
              · (try dsimp only [Gs_M] at c_89)
                exact absurd c_17 c_89
              · (try dsimp only [Gs_M] at c_89)
                refine r_iload_n dX12_shelf_92 rfl rfl ?_
                refine r_goto (tgt := 111) dX12_shelf_93 (by decide) ?_
                refine r_iast (j := ja) dX12_shelf_111 rfl (Nat.le_of_ble_eq_true rfl) rfl (by omega) (by decide) ?_
                refine r_iconst (v := 1) dX12_shelf_112 (by decide) ?_
                refine r_iret dX12_shelf_113 rfl (Nat.le_refl _) ?_
                (try dsimp only [Gs_M])
                have hA : slA (M0 55) (nI ja) what n := ⟨c_4, c_13, fun _ => c_25, fun z => absurd (c_17.symm.trans z) (by decide)⟩
                refine ⟨_, rfl, ?_, ((kp.rf hS).set (by decide) (by decide)).set (by decide) (by decide), ?_, ?_⟩
                · rw [shelfX, if_pos hA]
                · rw [mSet_ne (by decide), mSet_at, shelfH, if_pos hA, cl_nI (by omega), if_pos c_17]
                  rfl
                · rw [mSet_at, mSet_ne (by decide), shelfO, if_pos hA, cl_nI (by omega), if_pos c_17]
                  rfl
          · (try dsimp only [Gs_M] at c_30)
            exact absurd (c_17.symm.trans c_30) (by decide)
set_option maxRecDepth 20000 in
set_option maxHeartbeats 1000000 in
theorem s_X12_heldOn (g : pG) {S : pS} (hS : sOk S) (j : Nat) (hj : j < 4) : MS g mX12_heldOn 3 0 0 [.ref 54, .int (nI j)] (S) (dI (hoX ((S).2.2.2 55) ((S).2.2.2 68) ((S).2.2.2 69) j) S) := by
  obtain ⟨M0, rfl⟩ := sOk_gs hS
  refine MS.of pn_X12 (Nat.le_of_ble_eq_true rfl) ?_
  refine r_aload_n dX12_heldOn_0 rfl rfl ?_
  refine r_getR (q := 68) dX12_heldOn_1 (ci := 12) (kf := 21) rfl (Nat.le_of_ble_eq_true rfl) (by decide) (by decide) rfl fl_X12_50 (Or.inl rfl) rfl ?_
  refine r_iload_n dX12_heldOn_4 rfl rfl ?_
  refine r_iald (j := j) dX12_heldOn_5 rfl (Nat.le_of_ble_eq_true rfl) rfl (by omega) (by decide) ?_
  refine r_if_ne (tgt := 26) dX12_heldOn_6 (by decide) (fun c_6 => ?_) (fun c_6 => ?_)
  · (try dsimp only [Gs_M] at c_6)
    refine r_aload_n dX12_heldOn_26 rfl rfl ?_
    refine r_getR (q := 68) dX12_heldOn_27 (ci := 12) (kf := 21) rfl (Nat.le_of_ble_eq_true rfl) (by decide) (by decide) rfl fl_X12_50 (Or.inl rfl) rfl ?_
    refine r_iload_n dX12_heldOn_30 rfl rfl ?_
    refine r_iald (j := j) dX12_heldOn_31 rfl (Nat.le_of_ble_eq_true rfl) rfl (by omega) (by decide) ?_
    refine r_iret dX12_heldOn_32 rfl (Nat.le_refl _) ?_
    (try dsimp only [Gs_M])
    refine ⟨?_, rfl⟩
    congr 2
    exact Eq.symm (if_neg (fun z => c_6 z.1))
  · (try dsimp only [Gs_M] at c_6)
    refine r_aload_n dX12_heldOn_9 rfl rfl ?_
    refine r_aload_n dX12_heldOn_10 rfl rfl ?_
    refine r_getR (q := 69) dX12_heldOn_11 (ci := 12) (kf := 22) rfl (Nat.le_of_ble_eq_true rfl) (by decide) (by decide) rfl fl_X12_53 (Or.inl rfl) rfl ?_
    refine r_iload_n dX12_heldOn_14 rfl rfl ?_
    refine r_iald (j := j) dX12_heldOn_15 rfl (Nat.le_of_ble_eq_true rfl) rfl (by omega) (by decide) ?_
    refine r_callV_dI (ci := 12) dX12_heldOn_16 (s_X12_isPlayer g (by exact ⟨rfl, rfl, rfl⟩) _) mf_X12_isPlayer mi_X12_isPlayer se_X12_X12_X12_isPlayer ml_X12_188 rfl rfl (Nat.le_of_ble_eq_true rfl) rfl (by decide) rfl (Nat.le_of_ble_eq_true rfl) ⟨(Nat.le_of_ble_eq_true rfl), (Nat.le_of_ble_eq_true rfl)⟩ ⟨(Nat.le_of_ble_eq_true rfl), (Nat.le_of_ble_eq_true rfl)⟩ ?_
    refine r_if_ne (tgt := 26) dX12_heldOn_19 (by decide) (fun c_19 => ?_) (fun c_19 => ?_)
    · have c_19 := bI_n c_19
      (try dsimp only [Gs_M] at c_19)
      refine r_aload_n dX12_heldOn_26 rfl rfl ?_
      refine r_getR (q := 68) dX12_heldOn_27 (ci := 12) (kf := 21) rfl (Nat.le_of_ble_eq_true rfl) (by decide) (by decide) rfl fl_X12_50 (Or.inl rfl) rfl ?_
      refine r_iload_n dX12_heldOn_30 rfl rfl ?_
      refine r_iald (j := j) dX12_heldOn_31 rfl (Nat.le_of_ble_eq_true rfl) rfl (by omega) (by decide) ?_
      refine r_iret dX12_heldOn_32 rfl (Nat.le_refl _) ?_
      (try dsimp only [Gs_M])
      refine ⟨?_, rfl⟩
      congr 2
      exact Eq.symm (if_neg (fun z => z.2 c_19))
    · have c_19 := bI_0 c_19
      (try dsimp only [Gs_M] at c_19)
      refine r_iconst (v := (-1)) dX12_heldOn_22 (by decide) ?_
      refine r_goto (tgt := 32) dX12_heldOn_23 (by decide) ?_
      refine r_iret dX12_heldOn_32 rfl (Nat.le_refl _) ?_
      (try dsimp only [Gs_M])
      refine ⟨?_, rfl⟩
      congr 2
      exact Eq.symm (if_pos ⟨c_6, c_19⟩)
set_option maxRecDepth 20000 in
set_option maxHeartbeats 1000000 in
theorem s_X12_isUnder (g : pG) (kind of : Int32) (S : pS) : MS g mX12_isUnder 1 0 0 [.int kind, .int of] (S) (dI (bI (unA kind of)) S) := by
  refine MS.of pn_X12 (Nat.le_of_ble_eq_true rfl) ?_
  refine r_iload_n dX12_isUnder_0 rfl rfl ?_
  refine r_if_eq (tgt := 29) dX12_isUnder_1 (by decide) (fun c_1 => ?_) (fun c_1 => ?_)
  · (try dsimp only [Gs_M] at c_1)
    refine r_iconst (v := 1) dX12_isUnder_29 (by decide) ?_
    refine r_goto (tgt := 34) dX12_isUnder_30 (by decide) ?_
    refine r_zret dX12_isUnder_34 rfl rfl (Nat.le_refl _) ?_
    (try dsimp only [Gs_M])
    exact ⟨congrArg (fun y => some (Value.int y)) (bI_t (Or.inl c_1)).symm, rfl⟩
  · (try dsimp only [Gs_M] at c_1)
    refine r_iload_n dX12_isUnder_4 rfl rfl ?_
    refine r_iload_n dX12_isUnder_5 rfl rfl ?_
    refine r_icmp_eq (tgt := 29) dX12_isUnder_6 (by decide) (fun c_6 => ?_) (fun c_6 => ?_)
    · (try dsimp only [Gs_M] at c_6)
      refine r_iconst (v := 1) dX12_isUnder_29 (by decide) ?_
      refine r_goto (tgt := 34) dX12_isUnder_30 (by decide) ?_
      refine r_zret dX12_isUnder_34 rfl rfl (Nat.le_refl _) ?_
      (try dsimp only [Gs_M])
      exact ⟨congrArg (fun y => some (Value.int y)) (bI_t (Or.inr (Or.inl c_6))).symm, rfl⟩
    · (try dsimp only [Gs_M] at c_6)
      refine r_iload_n dX12_isUnder_9 rfl rfl ?_
      refine r_iconst (v := 1) dX12_isUnder_10 (by decide) ?_
      refine r_icmp_ne (tgt := 19) dX12_isUnder_11 (by decide) (fun c_11 => ?_) (fun c_11 => ?_)
      · (try dsimp only [Gs_M] at c_11)
        refine r_iload_n dX12_isUnder_19 rfl rfl ?_
        refine r_iconst (v := 2) dX12_isUnder_20 (by decide) ?_
        refine r_icmp_ne (tgt := 33) dX12_isUnder_21 (by decide) (fun c_21 => ?_) (fun c_21 => ?_)
        · (try dsimp only [Gs_M] at c_21)
          refine r_iconst (v := 0) dX12_isUnder_33 (by decide) ?_
          refine r_zret dX12_isUnder_34 rfl rfl (Nat.le_refl _) ?_
          (try dsimp only [Gs_M])
          exact ⟨congrArg (fun y => some (Value.int y)) (bI_f (fun z => z.elim c_1 (fun z => z.elim c_6 (fun z => z.elim (fun y => c_11 y.1) (fun y => c_21 y.1))))).symm, rfl⟩
        · (try dsimp only [Gs_M] at c_21)
          refine r_iload_n dX12_isUnder_24 rfl rfl ?_
          refine r_iconst (v := 4) dX12_isUnder_25 (by decide) ?_
          refine r_icmp_ne (tgt := 33) dX12_isUnder_26 (by decide) (fun c_26 => ?_) (fun c_26 => ?_)
          · (try dsimp only [Gs_M] at c_26)
            refine r_iconst (v := 0) dX12_isUnder_33 (by decide) ?_
            refine r_zret dX12_isUnder_34 rfl rfl (Nat.le_refl _) ?_
            (try dsimp only [Gs_M])
            exact ⟨congrArg (fun y => some (Value.int y)) (bI_f (fun z => z.elim c_1 (fun z => z.elim c_6 (fun z => z.elim (fun y => c_11 y.1) (fun y => c_26 y.2))))).symm, rfl⟩
          · (try dsimp only [Gs_M] at c_26)
            refine r_iconst (v := 1) dX12_isUnder_29 (by decide) ?_
            refine r_goto (tgt := 34) dX12_isUnder_30 (by decide) ?_
            refine r_zret dX12_isUnder_34 rfl rfl (Nat.le_refl _) ?_
            (try dsimp only [Gs_M])
            exact ⟨congrArg (fun y => some (Value.int y)) (bI_t (Or.inr (Or.inr (Or.inr ⟨c_21, c_26⟩)))).symm, rfl⟩
      · (try dsimp only [Gs_M] at c_11)
        refine r_iload_n dX12_isUnder_14 rfl rfl ?_
        refine r_iconst (v := 3) dX12_isUnder_15 (by decide) ?_
        refine r_icmp_eq (tgt := 29) dX12_isUnder_16 (by decide) (fun c_16 => ?_) (fun c_16 => ?_)
        · (try dsimp only [Gs_M] at c_16)
          refine r_iconst (v := 1) dX12_isUnder_29 (by decide) ?_
          refine r_goto (tgt := 34) dX12_isUnder_30 (by decide) ?_
          refine r_zret dX12_isUnder_34 rfl rfl (Nat.le_refl _) ?_
          (try dsimp only [Gs_M])
          exact ⟨congrArg (fun y => some (Value.int y)) (bI_t (Or.inr (Or.inr (Or.inl ⟨c_11, c_16⟩)))).symm, rfl⟩
        · (try dsimp only [Gs_M] at c_16)
          refine r_iload_n dX12_isUnder_19 rfl rfl ?_
          refine r_iconst (v := 2) dX12_isUnder_20 (by decide) ?_
          refine r_icmp_ne (tgt := 33) dX12_isUnder_21 (by decide) (fun c_21 => ?_) (fun c_21 => ?_)
          · (try dsimp only [Gs_M] at c_21)
            refine r_iconst (v := 0) dX12_isUnder_33 (by decide) ?_
            refine r_zret dX12_isUnder_34 rfl rfl (Nat.le_refl _) ?_
            (try dsimp only [Gs_M])
            exact ⟨congrArg (fun y => some (Value.int y)) (bI_f (fun z => z.elim c_1 (fun z => z.elim c_6 (fun z => z.elim (fun y => c_16 y.2) (fun y => c_21 y.1))))).symm, rfl⟩
          · (try dsimp only [Gs_M] at c_21)
            refine r_iload_n dX12_isUnder_24 rfl rfl ?_
            refine r_iconst (v := 4) dX12_isUnder_25 (by decide) ?_
            refine r_icmp_ne (tgt := 33) dX12_isUnder_26 (by decide) (fun c_26 => ?_) (fun c_26 => ?_)
            · (try dsimp only [Gs_M] at c_26)
              refine r_iconst (v := 0) dX12_isUnder_33 (by decide) ?_
              refine r_zret dX12_isUnder_34 rfl rfl (Nat.le_refl _) ?_
              (try dsimp only [Gs_M])
              exact ⟨congrArg (fun y => some (Value.int y)) (bI_f (fun z => z.elim c_1 (fun z => z.elim c_6 (fun z => z.elim (fun y => c_16 y.2) (fun y => c_26 y.2))))).symm, rfl⟩
            · (try dsimp only [Gs_M] at c_26)
              refine r_iconst (v := 1) dX12_isUnder_29 (by decide) ?_
              refine r_goto (tgt := 34) dX12_isUnder_30 (by decide) ?_
              refine r_zret dX12_isUnder_34 rfl rfl (Nat.le_refl _) ?_
              (try dsimp only [Gs_M])
              exact ⟨congrArg (fun y => some (Value.int y)) (bI_t (Or.inr (Or.inr (Or.inr ⟨c_21, c_26⟩)))).symm, rfl⟩
theorem ho0 {W ho h1 : Nat → Int32} {j : Nat} (h : hoX W ho h1 j = 0) : 0 ≤ h1 j ∧ h1 j ≤ W 6 - 1 := by
  unfold hoX at h
  by_cases c : ho j = 0 ∧ ¬ (0 ≤ h1 j ∧ h1 j ≤ W 6 - 1)
  · rw [if_pos c] at h
    exact absurd h (by decide)
  · rw [if_neg c] at h
    exact Decidable.byContradiction (fun n => c ⟨h, n⟩)
set_option maxRecDepth 20000 in
set_option maxHeartbeats 1000000 in
theorem s_X12_taken (g : pG) {S : pS} (hS : sOk S) (hI : InvR (S.2.2.2 55)) (a x : Int32) : MS g mX12_taken 4 0 0 [.ref 54, .int a, .int x] (S) (eI (fun rx S1 => rx = takenX ((S).2.2.2 55) ((S).2.2.2 68) ((S).2.2.2 69) a x ∧ kp [] (S) S1)) := by
  obtain ⟨M0, rfl⟩ := sOk_gs hS
  have hI : InvR (M0 55) := hI
  obtain ⟨h8, hpl⟩ := hI.pl
  have h8 : plR (M0 55) ≤ 8 := h8
  have hpl : M0 55 6 = nI (plR (M0 55)) := hpl
  refine MS.of pn_X12 (Nat.le_of_ble_eq_true rfl) ?_
  refine r_iload_n dX12_taken_0 rfl rfl ?_
  refine r_callS_dI dX12_taken_1 (s_X12_isSheet g _ _) mf_X12_isSheet mt_X12_isSheet ml_X12_230 rfl rfl (Nat.le_of_ble_eq_true rfl) ⟨(Nat.le_of_ble_eq_true rfl), (Nat.le_of_ble_eq_true rfl)⟩ ⟨(Nat.le_of_ble_eq_true rfl), (Nat.le_of_ble_eq_true rfl)⟩ ?_
  refine r_if_eq (tgt := 27) dX12_taken_4 (by decide) (fun c_4 => ?_) (fun c_4 => ?_)
  · have c_4 := bI_0 c_4
    (try dsimp only [Gs_M] at c_4)
    refine r_iconst (v := (-1)) dX12_taken_27 (by decide) ?_
    refine r_iret dX12_taken_28 rfl (Nat.le_refl _) ?_
    (try dsimp only [Gs_M])
    refine ⟨_, rfl, ?_, kp.rf hS⟩
    rw [takenX, if_neg (fun z => c_4 z.1)]
  · have c_4 := bI_n c_4
    (try dsimp only [Gs_M] at c_4)
    refine r_iload_n dX12_taken_7 rfl rfl ?_
    refine r_iconst (v := 0) dX12_taken_8 (by decide) ?_
    refine r_iconst (v := 5) dX12_taken_9 (by decide) ?_
    refine r_callS_dI dX12_taken_10 (s_X12_in1 g _ _ _ _) mf_X12_in1 mt_X12_in1 ml_X12_63 rfl rfl (Nat.le_of_ble_eq_true rfl) ⟨(Nat.le_of_ble_eq_true rfl), (Nat.le_of_ble_eq_true rfl)⟩ ⟨(Nat.le_of_ble_eq_true rfl), (Nat.le_of_ble_eq_true rfl)⟩ ?_
    refine r_if_ne (tgt := 29) dX12_taken_13 (by decide) (fun c_13 => ?_) (fun c_13 => ?_)
    · have c_13 := bI_n c_13
      (try dsimp only [Gs_M] at c_13)
      obtain ⟨ja, hja, rfl⟩ := rng (x := a) 3 (by decide) c_4
      refine r_aload_n dX12_taken_29 rfl rfl ?_
      refine r_iload_n dX12_taken_30 rfl rfl ?_
      refine r_callV_dI (ci := 12) dX12_taken_31 (s_X12_heldOn g hS (ja) (by omega)) mf_X12_heldOn mi_X12_heldOn se_X12_X12_X12_heldOn ml_X12_250 rfl rfl (Nat.le_of_ble_eq_true rfl) rfl (by decide) rfl (Nat.le_of_ble_eq_true rfl) ⟨(Nat.le_of_ble_eq_true rfl), (Nat.le_of_ble_eq_true rfl)⟩ ⟨(Nat.le_of_ble_eq_true rfl), (Nat.le_of_ble_eq_true rfl)⟩ ?_
      refine r_istore_n dX12_taken_34 rfl (by decide) ?_
      refine r_iload_n dX12_taken_35 rfl rfl ?_
      refine r_if_ge (tgt := 42) dX12_taken_36 (by decide) (fun c_36 => ?_) (fun c_36 => ?_)
      · (try dsimp only [Gs_M] at c_36)
        refine r_iload_n dX12_taken_42 rfl rfl ?_
        refine r_if_ne (tgt := 78) dX12_taken_43 (by decide) (fun c_43 => ?_) (fun c_43 => ?_)
        · (try dsimp only [Gs_M] at c_43)
          refine r_iload_n dX12_taken_78 rfl rfl ?_
          refine r_iload_n dX12_taken_79 rfl rfl ?_
          refine r_icmp_ne (tgt := 87) dX12_taken_80 (by decide) (fun c_80 => ?_) (fun c_80 => ?_)
          · (try dsimp only [Gs_M] at c_80)
            refine r_iconst (v := 0) dX12_taken_87 (by decide) ?_
            refine r_istore dX12_taken_88 (by decide) ?_
            refine r_iload dX12_taken_90 rfl ?_
            refine r_if_eq (tgt := 104) dX12_taken_92 (by decide) (fun _ => ?_) (fun c => absurd c (by decide))
            refine r_bipush (v := (-13)) dX12_taken_104 (by decide) ?_
            refine r_iret dX12_taken_106 rfl (Nat.le_refl _) ?_
            (try dsimp only [Gs_M])
            have hA : tkA (nI ja) x := ⟨c_4, Or.inl c_13⟩
            refine ⟨_, rfl, ?_, kp.rf hS⟩
            rw [takenX, if_pos hA, cl_nI (by omega), if_neg (Int32.not_lt.mpr c_36), if_neg c_43, if_neg c_80]
          · (try dsimp only [Gs_M] at c_80)
            refine r_iconst (v := 1) dX12_taken_83 (by decide) ?_
            refine r_goto (tgt := 88) dX12_taken_84 (by decide) ?_
            refine r_istore dX12_taken_88 (by decide) ?_
            refine r_iload dX12_taken_90 rfl ?_
            refine r_if_eq (tgt := 104) dX12_taken_92 (by decide) (fun c => absurd c (by decide)) (fun _ => ?_)
            refine r_aload_n dX12_taken_95 rfl rfl ?_
            refine r_getR (q := 69) dX12_taken_96 (ci := 12) (kf := 22) rfl (Nat.le_of_ble_eq_true rfl) (by decide) (by decide) rfl fl_X12_53 (Or.inl rfl) rfl ?_
            refine r_iload_n dX12_taken_99 rfl rfl ?_
            refine r_iald (j := ja) dX12_taken_100 rfl (Nat.le_of_ble_eq_true rfl) rfl (by omega) (by decide) ?_
            refine r_goto (tgt := 106) dX12_taken_101 (by decide) ?_
            refine r_iret dX12_taken_106 rfl (Nat.le_refl _) ?_
            (try dsimp only [Gs_M])
            have hA : tkA (nI ja) x := ⟨c_4, Or.inl c_13⟩
            refine ⟨_, rfl, ?_, kp.rf hS⟩
            rw [takenX, if_pos hA, cl_nI (by omega), if_neg (Int32.not_lt.mpr c_36), if_neg c_43, if_pos c_80]
        · (try dsimp only [Gs_M] at c_43)
          refine r_iload_n dX12_taken_46 rfl rfl ?_
          refine r_bipush (v := 10) dX12_taken_47 (by decide) ?_
          refine r_icmp_ge (tgt := 74) dX12_taken_49 (by decide) (fun c_49 => ?_) (fun c_49 => ?_)
          · (try dsimp only [Gs_M] at c_49)
            refine r_iconst (v := 0) dX12_taken_74 (by decide) ?_
            refine r_goto (tgt := 88) dX12_taken_75 (by decide) ?_
            refine r_istore dX12_taken_88 (by decide) ?_
            refine r_iload dX12_taken_90 rfl ?_
            refine r_if_eq (tgt := 104) dX12_taken_92 (by decide) (fun _ => ?_) (fun c => absurd c (by decide))
            refine r_bipush (v := (-13)) dX12_taken_104 (by decide) ?_
            refine r_iret dX12_taken_106 rfl (Nat.le_refl _) ?_
            (try dsimp only [Gs_M])
            have hA : tkA (nI ja) x := ⟨c_4, Or.inl c_13⟩
            refine ⟨_, rfl, ?_, kp.rf hS⟩
            rw [takenX, if_pos hA, cl_nI (by omega), if_neg (Int32.not_lt.mpr c_36), if_pos c_43, if_neg (fun z => Int32.not_lt.mpr c_49 z.1)]
          · (try dsimp only [Gs_M] at c_49)
            obtain ⟨jn, hjn, e69⟩ := rngP (ho0 c_43) h8 hpl
            have e69 : M0 69 ja = nI jn := e69
            refine r_aload_n dX12_taken_52 rfl rfl ?_
            refine r_aload_n dX12_taken_53 rfl rfl ?_
            refine r_getR (q := 69) dX12_taken_54 (ci := 12) (kf := 22) rfl (Nat.le_of_ble_eq_true rfl) (by decide) (by decide) rfl fl_X12_53 (Or.inl rfl) rfl ?_
            refine r_iload_n dX12_taken_57 rfl rfl ?_
            refine r_iald (j := ja) dX12_taken_58 rfl (Nat.le_of_ble_eq_true rfl) rfl (by omega) (by decide) ?_
            rw [show (Gs M0).2.2.2 69 ja = nI jn from e69]
            refine r_iconst (v := 0) dX12_taken_59 (by decide) ?_
            refine r_callV_dI (ci := 12) dX12_taken_60 (s_X12_get g (by exact ⟨rfl, rfl, rfl⟩) (jn) (0) (by omega) (by omega)) mf_X12_get mi_X12_get se_X12_X12_X12_get ml_X12_67 rfl rfl (Nat.le_of_ble_eq_true rfl) rfl (by decide) rfl (Nat.le_of_ble_eq_true rfl) ⟨(Nat.le_of_ble_eq_true rfl), (Nat.le_of_ble_eq_true rfl)⟩ ⟨(Nat.le_of_ble_eq_true rfl), (Nat.le_of_ble_eq_true rfl)⟩ ?_
            refine r_iload_n dX12_taken_63 rfl rfl ?_
            refine r_callS_dI dX12_taken_64 (s_X12_isUnder g _ _ _) mf_X12_isUnder mt_X12_isUnder ml_X12_253 rfl rfl (Nat.le_of_ble_eq_true rfl) ⟨(Nat.le_of_ble_eq_true rfl), (Nat.le_of_ble_eq_true rfl)⟩ ⟨(Nat.le_of_ble_eq_true rfl), (Nat.le_of_ble_eq_true rfl)⟩ ?_
            refine r_if_eq (tgt := 74) dX12_taken_67 (by decide) (fun c_67 => ?_) (fun c_67 => ?_)
            · have c_67 := bI_0 c_67
              (try dsimp only [Gs_M] at c_67)
              refine r_iconst (v := 0) dX12_taken_74 (by decide) ?_
              refine r_goto (tgt := 88) dX12_taken_75 (by decide) ?_
              refine r_istore dX12_taken_88 (by decide) ?_
              refine r_iload dX12_taken_90 rfl ?_
              refine r_if_eq (tgt := 104) dX12_taken_92 (by decide) (fun _ => ?_) (fun c => absurd c (by decide))
              refine r_bipush (v := (-13)) dX12_taken_104 (by decide) ?_
              refine r_iret dX12_taken_106 rfl (Nat.le_refl _) ?_
              (try dsimp only [Gs_M])
              have hA : tkA (nI ja) x := ⟨c_4, Or.inl c_13⟩
              refine ⟨_, rfl, ?_, kp.rf hS⟩
              rw [takenX, if_pos hA, cl_nI (by omega), if_neg (Int32.not_lt.mpr c_36), if_pos c_43, e69, cl_nI (by omega), if_neg (fun z => c_67 z.2)]
            · have c_67 := bI_n c_67
              (try dsimp only [Gs_M] at c_67)
              refine r_iconst (v := 1) dX12_taken_70 (by decide) ?_
              refine r_goto (tgt := 88) dX12_taken_71 (by decide) ?_
              refine r_istore dX12_taken_88 (by decide) ?_
              refine r_iload dX12_taken_90 rfl ?_
              refine r_if_eq (tgt := 104) dX12_taken_92 (by decide) (fun c => absurd c (by decide)) (fun _ => ?_)
              refine r_aload_n dX12_taken_95 rfl rfl ?_
              refine r_getR (q := 69) dX12_taken_96 (ci := 12) (kf := 22) rfl (Nat.le_of_ble_eq_true rfl) (by decide) (by decide) rfl fl_X12_53 (Or.inl rfl) rfl ?_
              refine r_iload_n dX12_taken_99 rfl rfl ?_
              refine r_iald (j := ja) dX12_taken_100 rfl (Nat.le_of_ble_eq_true rfl) rfl (by omega) (by decide) ?_
              refine r_goto (tgt := 106) dX12_taken_101 (by decide) ?_
              refine r_iret dX12_taken_106 rfl (Nat.le_refl _) ?_
              (try dsimp only [Gs_M])
              have hA : tkA (nI ja) x := ⟨c_4, Or.inl c_13⟩
              refine ⟨_, rfl, ?_, kp.rf hS⟩
              rw [takenX, if_pos hA, cl_nI (by omega), if_neg (Int32.not_lt.mpr c_36), if_pos c_43, e69, cl_nI (by omega), if_pos ⟨Int32.not_le.mp c_49, c_67⟩]
      · (try dsimp only [Gs_M] at c_36)
        refine r_bipush (v := (-11)) dX12_taken_39 (by decide) ?_
        refine r_iret dX12_taken_41 rfl (Nat.le_refl _) ?_
        (try dsimp only [Gs_M])
        have hA : tkA (nI ja) x := ⟨c_4, Or.inl c_13⟩
        refine ⟨_, rfl, ?_, kp.rf hS⟩
        rw [takenX, if_pos hA, cl_nI (by omega), if_pos (Int32.not_le.mp c_36)]
    · have c_13 := bI_0 c_13
      (try dsimp only [Gs_M] at c_13)
      refine r_iload_n dX12_taken_16 rfl rfl ?_
      refine r_bipush (v := 10) dX12_taken_17 (by decide) ?_
      refine r_bipush (v := 13) dX12_taken_19 (by decide) ?_
      refine r_callS_dI dX12_taken_21 (s_X12_in1 g _ _ _ _) mf_X12_in1 mt_X12_in1 ml_X12_63 rfl rfl (Nat.le_of_ble_eq_true rfl) ⟨(Nat.le_of_ble_eq_true rfl), (Nat.le_of_ble_eq_true rfl)⟩ ⟨(Nat.le_of_ble_eq_true rfl), (Nat.le_of_ble_eq_true rfl)⟩ ?_
      refine r_if_ne (tgt := 29) dX12_taken_24 (by decide) (fun c_24 => ?_) (fun c_24 => ?_)
      · have c_24 := bI_n c_24
        (try dsimp only [Gs_M] at c_24)
        obtain ⟨ja, hja, rfl⟩ := rng (x := a) 3 (by decide) c_4
        refine r_aload_n dX12_taken_29 rfl rfl ?_
        refine r_iload_n dX12_taken_30 rfl rfl ?_
        refine r_callV_dI (ci := 12) dX12_taken_31 (s_X12_heldOn g hS (ja) (by omega)) mf_X12_heldOn mi_X12_heldOn se_X12_X12_X12_heldOn ml_X12_250 rfl rfl (Nat.le_of_ble_eq_true rfl) rfl (by decide) rfl (Nat.le_of_ble_eq_true rfl) ⟨(Nat.le_of_ble_eq_true rfl), (Nat.le_of_ble_eq_true rfl)⟩ ⟨(Nat.le_of_ble_eq_true rfl), (Nat.le_of_ble_eq_true rfl)⟩ ?_
        refine r_istore_n dX12_taken_34 rfl (by decide) ?_
        refine r_iload_n dX12_taken_35 rfl rfl ?_
        refine r_if_ge (tgt := 42) dX12_taken_36 (by decide) (fun c_36 => ?_) (fun c_36 => ?_)
        · (try dsimp only [Gs_M] at c_36)
          refine r_iload_n dX12_taken_42 rfl rfl ?_
          refine r_if_ne (tgt := 78) dX12_taken_43 (by decide) (fun c_43 => ?_) (fun c_43 => ?_)
          · (try dsimp only [Gs_M] at c_43)
            refine r_iload_n dX12_taken_78 rfl rfl ?_
            refine r_iload_n dX12_taken_79 rfl rfl ?_
            refine r_icmp_ne (tgt := 87) dX12_taken_80 (by decide) (fun c_80 => ?_) (fun c_80 => ?_)
            · (try dsimp only [Gs_M] at c_80)
              refine r_iconst (v := 0) dX12_taken_87 (by decide) ?_
              refine r_istore dX12_taken_88 (by decide) ?_
              refine r_iload dX12_taken_90 rfl ?_
              refine r_if_eq (tgt := 104) dX12_taken_92 (by decide) (fun _ => ?_) (fun c => absurd c (by decide))
              refine r_bipush (v := (-13)) dX12_taken_104 (by decide) ?_
              refine r_iret dX12_taken_106 rfl (Nat.le_refl _) ?_
              (try dsimp only [Gs_M])
              have hA : tkA (nI ja) x := ⟨c_4, Or.inr c_24⟩
              refine ⟨_, rfl, ?_, kp.rf hS⟩
              rw [takenX, if_pos hA, cl_nI (by omega), if_neg (Int32.not_lt.mpr c_36), if_neg c_43, if_neg c_80]
            · (try dsimp only [Gs_M] at c_80)
              refine r_iconst (v := 1) dX12_taken_83 (by decide) ?_
              refine r_goto (tgt := 88) dX12_taken_84 (by decide) ?_
              refine r_istore dX12_taken_88 (by decide) ?_
              refine r_iload dX12_taken_90 rfl ?_
              refine r_if_eq (tgt := 104) dX12_taken_92 (by decide) (fun c => absurd c (by decide)) (fun _ => ?_)
              refine r_aload_n dX12_taken_95 rfl rfl ?_
              refine r_getR (q := 69) dX12_taken_96 (ci := 12) (kf := 22) rfl (Nat.le_of_ble_eq_true rfl) (by decide) (by decide) rfl fl_X12_53 (Or.inl rfl) rfl ?_
              refine r_iload_n dX12_taken_99 rfl rfl ?_
              refine r_iald (j := ja) dX12_taken_100 rfl (Nat.le_of_ble_eq_true rfl) rfl (by omega) (by decide) ?_
              refine r_goto (tgt := 106) dX12_taken_101 (by decide) ?_
              refine r_iret dX12_taken_106 rfl (Nat.le_refl _) ?_
              (try dsimp only [Gs_M])
              have hA : tkA (nI ja) x := ⟨c_4, Or.inr c_24⟩
              refine ⟨_, rfl, ?_, kp.rf hS⟩
              rw [takenX, if_pos hA, cl_nI (by omega), if_neg (Int32.not_lt.mpr c_36), if_neg c_43, if_pos c_80]
          · (try dsimp only [Gs_M] at c_43)
            refine r_iload_n dX12_taken_46 rfl rfl ?_
            refine r_bipush (v := 10) dX12_taken_47 (by decide) ?_
            refine r_icmp_ge (tgt := 74) dX12_taken_49 (by decide) (fun c_49 => ?_) (fun c_49 => ?_)
            · (try dsimp only [Gs_M] at c_49)
              refine r_iconst (v := 0) dX12_taken_74 (by decide) ?_
              refine r_goto (tgt := 88) dX12_taken_75 (by decide) ?_
              refine r_istore dX12_taken_88 (by decide) ?_
              refine r_iload dX12_taken_90 rfl ?_
              refine r_if_eq (tgt := 104) dX12_taken_92 (by decide) (fun _ => ?_) (fun c => absurd c (by decide))
              refine r_bipush (v := (-13)) dX12_taken_104 (by decide) ?_
              refine r_iret dX12_taken_106 rfl (Nat.le_refl _) ?_
              (try dsimp only [Gs_M])
              have hA : tkA (nI ja) x := ⟨c_4, Or.inr c_24⟩
              refine ⟨_, rfl, ?_, kp.rf hS⟩
              rw [takenX, if_pos hA, cl_nI (by omega), if_neg (Int32.not_lt.mpr c_36), if_pos c_43, if_neg (fun z => Int32.not_lt.mpr c_49 z.1)]
            · (try dsimp only [Gs_M] at c_49)
              obtain ⟨jn, hjn, e69⟩ := rngP (ho0 c_43) h8 hpl
              have e69 : M0 69 ja = nI jn := e69
              refine r_aload_n dX12_taken_52 rfl rfl ?_
              refine r_aload_n dX12_taken_53 rfl rfl ?_
              refine r_getR (q := 69) dX12_taken_54 (ci := 12) (kf := 22) rfl (Nat.le_of_ble_eq_true rfl) (by decide) (by decide) rfl fl_X12_53 (Or.inl rfl) rfl ?_
              refine r_iload_n dX12_taken_57 rfl rfl ?_
              refine r_iald (j := ja) dX12_taken_58 rfl (Nat.le_of_ble_eq_true rfl) rfl (by omega) (by decide) ?_
              rw [show (Gs M0).2.2.2 69 ja = nI jn from e69]
              refine r_iconst (v := 0) dX12_taken_59 (by decide) ?_
              refine r_callV_dI (ci := 12) dX12_taken_60 (s_X12_get g (by exact ⟨rfl, rfl, rfl⟩) (jn) (0) (by omega) (by omega)) mf_X12_get mi_X12_get se_X12_X12_X12_get ml_X12_67 rfl rfl (Nat.le_of_ble_eq_true rfl) rfl (by decide) rfl (Nat.le_of_ble_eq_true rfl) ⟨(Nat.le_of_ble_eq_true rfl), (Nat.le_of_ble_eq_true rfl)⟩ ⟨(Nat.le_of_ble_eq_true rfl), (Nat.le_of_ble_eq_true rfl)⟩ ?_
              refine r_iload_n dX12_taken_63 rfl rfl ?_
              refine r_callS_dI dX12_taken_64 (s_X12_isUnder g _ _ _) mf_X12_isUnder mt_X12_isUnder ml_X12_253 rfl rfl (Nat.le_of_ble_eq_true rfl) ⟨(Nat.le_of_ble_eq_true rfl), (Nat.le_of_ble_eq_true rfl)⟩ ⟨(Nat.le_of_ble_eq_true rfl), (Nat.le_of_ble_eq_true rfl)⟩ ?_
              refine r_if_eq (tgt := 74) dX12_taken_67 (by decide) (fun c_67 => ?_) (fun c_67 => ?_)
              · have c_67 := bI_0 c_67
                (try dsimp only [Gs_M] at c_67)
                refine r_iconst (v := 0) dX12_taken_74 (by decide) ?_
                refine r_goto (tgt := 88) dX12_taken_75 (by decide) ?_
                refine r_istore dX12_taken_88 (by decide) ?_
                refine r_iload dX12_taken_90 rfl ?_
                refine r_if_eq (tgt := 104) dX12_taken_92 (by decide) (fun _ => ?_) (fun c => absurd c (by decide))
                refine r_bipush (v := (-13)) dX12_taken_104 (by decide) ?_
                refine r_iret dX12_taken_106 rfl (Nat.le_refl _) ?_
                (try dsimp only [Gs_M])
                have hA : tkA (nI ja) x := ⟨c_4, Or.inr c_24⟩
                refine ⟨_, rfl, ?_, kp.rf hS⟩
                rw [takenX, if_pos hA, cl_nI (by omega), if_neg (Int32.not_lt.mpr c_36), if_pos c_43, e69, cl_nI (by omega), if_neg (fun z => c_67 z.2)]
              · have c_67 := bI_n c_67
                (try dsimp only [Gs_M] at c_67)
                refine r_iconst (v := 1) dX12_taken_70 (by decide) ?_
                refine r_goto (tgt := 88) dX12_taken_71 (by decide) ?_
                refine r_istore dX12_taken_88 (by decide) ?_
                refine r_iload dX12_taken_90 rfl ?_
                refine r_if_eq (tgt := 104) dX12_taken_92 (by decide) (fun c => absurd c (by decide)) (fun _ => ?_)
                refine r_aload_n dX12_taken_95 rfl rfl ?_
                refine r_getR (q := 69) dX12_taken_96 (ci := 12) (kf := 22) rfl (Nat.le_of_ble_eq_true rfl) (by decide) (by decide) rfl fl_X12_53 (Or.inl rfl) rfl ?_
                refine r_iload_n dX12_taken_99 rfl rfl ?_
                refine r_iald (j := ja) dX12_taken_100 rfl (Nat.le_of_ble_eq_true rfl) rfl (by omega) (by decide) ?_
                refine r_goto (tgt := 106) dX12_taken_101 (by decide) ?_
                refine r_iret dX12_taken_106 rfl (Nat.le_refl _) ?_
                (try dsimp only [Gs_M])
                have hA : tkA (nI ja) x := ⟨c_4, Or.inr c_24⟩
                refine ⟨_, rfl, ?_, kp.rf hS⟩
                rw [takenX, if_pos hA, cl_nI (by omega), if_neg (Int32.not_lt.mpr c_36), if_pos c_43, e69, cl_nI (by omega), if_pos ⟨Int32.not_le.mp c_49, c_67⟩]
        · (try dsimp only [Gs_M] at c_36)
          refine r_bipush (v := (-11)) dX12_taken_39 (by decide) ?_
          refine r_iret dX12_taken_41 rfl (Nat.le_refl _) ?_
          (try dsimp only [Gs_M])
          have hA : tkA (nI ja) x := ⟨c_4, Or.inr c_24⟩
          refine ⟨_, rfl, ?_, kp.rf hS⟩
          rw [takenX, if_pos hA, cl_nI (by omega), if_pos (Int32.not_le.mp c_36)]
      · have c_24 := bI_0 c_24
        (try dsimp only [Gs_M] at c_24)
        refine r_iconst (v := (-1)) dX12_taken_27 (by decide) ?_
        refine r_iret dX12_taken_28 rfl (Nat.le_refl _) ?_
        (try dsimp only [Gs_M])
        refine ⟨_, rfl, ?_, kp.rf hS⟩
        rw [takenX, if_neg (fun z => z.2.elim c_13 c_24)]
