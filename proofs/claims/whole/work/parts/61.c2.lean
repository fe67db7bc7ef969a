set_option maxRecDepth 20000 in
set_option maxHeartbeats 1000000 in
theorem s_X11_heldTo (g : pG) (v m : Int32) (S : pS) : MS g mX11_heldTo 1 0 0 [.int v, .int m] (S) (dI (heldR v m) S) := by
  refine MS.of pn_X11 (Nat.le_of_ble_eq_true rfl) ?_
  refine r_iload_n dX11_heldTo_0 rfl rfl ?_
  refine r_if_ge (tgt := 6) dX11_heldTo_1 (by decide) (fun c_1 => ?_) (fun c_1 => ?_)
  · (try dsimp only [Gs_M] at c_1)
    refine r_iload_n dX11_heldTo_6 rfl rfl ?_
    refine r_iload_n dX11_heldTo_7 rfl rfl ?_
    refine r_icmp_le (tgt := 15) dX11_heldTo_8 (by decide) (fun c_8 => ?_) (fun c_8 => ?_)
    · (try dsimp only [Gs_M] at c_8)
      refine r_iload_n dX11_heldTo_15 rfl rfl ?_
      refine r_iret dX11_heldTo_16 rfl (Nat.le_refl _) ?_
      (try dsimp only [Gs_M])
      refine dI_e ?_
      (unfold heldR; repeat' split) <;> first | rfl | (exfalso; simp only [Int32.lt_iff_toInt_lt, Int32.le_iff_toInt_le] at *; omega)
    · (try dsimp only [Gs_M] at c_8)
      refine r_iload_n dX11_heldTo_11 rfl rfl ?_
      refine r_goto (tgt := 16) dX11_heldTo_12 (by decide) ?_
      refine r_iret dX11_heldTo_16 rfl (Nat.le_refl _) ?_
      (try dsimp only [Gs_M])
      refine dI_e ?_
      (unfold heldR; repeat' split) <;> first | rfl | (exfalso; simp only [Int32.lt_iff_toInt_lt, Int32.le_iff_toInt_le] at *; omega)
  · (try dsimp only [Gs_M] at c_1)
    refine r_iconst (v := 0) dX11_heldTo_4 (by decide) ?_
    refine r_iret dX11_heldTo_5 rfl (Nat.le_refl _) ?_
    (try dsimp only [Gs_M])
    refine dI_e ?_
    (unfold heldR; repeat' split) <;> first | rfl | (exfalso; simp only [Int32.lt_iff_toInt_lt, Int32.le_iff_toInt_le] at *; omega)
set_option maxRecDepth 20000 in
set_option maxHeartbeats 1000000 in
theorem s_X0_knowing (g : pG) {S : pS} {b : Nat} (hC : Co S b) (k p : Nat) (hk : k < 8) (hp : p < 8) : MS g mX0_knowing 1 0 0 [.ref b, .int (nI k), .int (nI p)] (S) (dI (vw S b (16 + 11 * k + (3 + p))) S) := by
  refine MS.of pn_X0 (Nat.le_of_ble_eq_true rfl) ?_
  refine r_aload_n dX0_knowing_0 rfl rfl ?_
  refine r_getR (q := (b + 6)) dX0_knowing_1 (ci := 0) (kf := 5) hC.2.1 (Co_lt hC) (by decide) (by decide) rfl fl_X0_27 (Or.inl rfl) hC.2.2.2.2.2.2.2.2.1 ?_
  refine r_iload_n dX0_knowing_4 rfl rfl ?_
  refine r_bipush (v := 8) dX0_knowing_5 (by decide) ?_
  refine r_imulN (k) (8) dX0_knowing_7 ?_
  refine r_iload_n dX0_knowing_8 rfl rfl ?_
  refine r_iaddN ((k * 8)) (p) dX0_knowing_9 ?_
  refine r_iald (j := ((k * 8) + p)) dX0_knowing_10 hC.2.2.1.2.2.2.2.2.1 (Co_la6 hC) rfl (by omega) (by decide) ?_
  refine r_iret dX0_knowing_11 rfl (Nat.le_refl _) ?_
  (try dsimp only [Gs_M])
  exact dI_e (vw_n hk hp).symm
set_option maxRecDepth 20000 in
set_option maxHeartbeats 1000000 in
theorem s_X0_learnTo (g : pG) {S : pS} {b : Nat} (hC : Co S b) (k p : Nat) (hk : k < 8) (hp : p < 8) (v : Int32) : MS g mX0_learnTo 2 0 0 [.ref b, .int (nI k), .int (nI p), .int v] (S) (dV (mSet S (b + 6) (k * 8 + p) (heldR v 99))) := by
  refine MS.of pn_X0 (Nat.le_of_ble_eq_true rfl) ?_
  refine r_aload_n dX0_learnTo_0 rfl rfl ?_
  refine r_getR (q := (b + 6)) dX0_learnTo_1 (ci := 0) (kf := 5) hC.2.1 (Co_lt hC) (by decide) (by decide) rfl fl_X0_27 (Or.inl rfl) hC.2.2.2.2.2.2.2.2.1 ?_
  refine r_iload_n dX0_learnTo_4 rfl rfl ?_
  refine r_bipush (v := 8) dX0_learnTo_5 (by decide) ?_
  refine r_imulN (k) (8) dX0_learnTo_7 ?_
  refine r_iload_n dX0_learnTo_8 rfl rfl ?_
  refine r_iaddN ((k * 8)) (p) dX0_learnTo_9 ?_
  refine r_iload_n dX0_learnTo_10 rfl rfl ?_
  refine r_bipush (v := 99) dX0_learnTo_11 (by decide) ?_
  refine r_callSN_dI dX0_learnTo_13 (s_X11_heldTo g _ _ _) mf_X11_heldTo mt_X11_heldTo (by decide) rfl rfl (Nat.le_of_ble_eq_true rfl) ⟨(Nat.le_of_ble_eq_true rfl), (Nat.le_of_ble_eq_true rfl)⟩ ⟨(Nat.le_of_ble_eq_true rfl), (Nat.le_of_ble_eq_true rfl)⟩ ?_
  refine r_iast (j := ((k * 8) + p)) dX0_learnTo_16 hC.2.2.1.2.2.2.2.2.1 (Co_la6 hC) rfl (by omega) (by decide) ?_
  refine r_vret dX0_learnTo_17 rfl (Nat.le_refl _) ?_
  (try dsimp only [Gs_M])
  exact ⟨rfl, rfl⟩
set_option maxRecDepth 20000 in
set_option maxHeartbeats 1000000 in
theorem s_X0_good (g : pG) {S : pS} {b : Nat} (hC : Co S b) (k p : Nat) (hk : k < 8) (hp : p < 8) : MS g mX0_good 1 0 0 [.ref b, .int (nI k), .int (nI p)] (S) (dI (goodR (vw S b) k p) S) := by
  refine MS.of pn_X0 (Nat.le_of_ble_eq_true rfl) ?_
  refine r_aload_n dX0_good_0 rfl rfl ?_
  refine r_getR (q := (b + 6)) dX0_good_1 (ci := 0) (kf := 5) hC.2.1 (Co_lt hC) (by decide) (by decide) rfl fl_X0_27 (Or.inl rfl) hC.2.2.2.2.2.2.2.2.1 ?_
  refine r_iload_n dX0_good_4 rfl rfl ?_
  refine r_bipush (v := 8) dX0_good_5 (by decide) ?_
  refine r_imulN (k) (8) dX0_good_7 ?_
  refine r_iload_n dX0_good_8 rfl rfl ?_
  refine r_iaddN ((k * 8)) (p) dX0_good_9 ?_
  refine r_iald (j := ((k * 8) + p)) dX0_good_10 hC.2.2.1.2.2.2.2.2.1 (Co_la6 hC) rfl (by omega) (by decide) ?_
  refine r_istore_n dX0_good_11 rfl (by decide) ?_
  refine r_aload_n dX0_good_12 rfl rfl ?_
  refine r_getR (q := (b + 4)) dX0_good_13 (ci := 0) (kf := 3) hC.2.1 (Co_lt hC) (by decide) (by decide) rfl fl_X0_21 (Or.inl rfl) hC.2.2.2.2.2.2.1 ?_
  refine r_iload_n dX0_good_16 rfl rfl ?_
  refine r_iald (j := k) dX0_good_17 hC.2.2.1.2.2.2.1 (Co_la4 hC) rfl (by omega) (by decide) ?_
  refine r_iload_n dX0_good_18 rfl rfl ?_
  refine r_icmp_ne (tgt := 26) dX0_good_19 (by decide) (fun c_19 => ?_) (fun c_19 => ?_)
  · (try dsimp only [Gs_M] at c_19)
    refine r_iconst (v := 0) dX0_good_26 (by decide) ?_
    refine r_istore dX0_good_27 (by decide) ?_
    refine r_aload_n dX0_good_29 rfl rfl ?_
    refine r_getR (q := (b + 3)) dX0_good_30 (ci := 0) (kf := 2) hC.2.1 (Co_lt hC) (by decide) (by decide) rfl fl_X0_18 (Or.inl rfl) hC.2.2.2.2.2.1 ?_
    refine r_iload_n dX0_good_33 rfl rfl ?_
    refine r_iald (j := k) dX0_good_34 hC.2.2.1.2.2.1 (Co_la3 hC) rfl (by omega) (by decide) ?_
    by_cases e_35_1 : S.2.2.2 (b + 3) k = 1
    · refine r_tableAt (tgt := 68) 1 dX0_good_35 e_35_1 (by decide) (by decide) rfl (by decide) ?_
      refine r_iload dX0_good_68 rfl ?_
      refine r_if_eq (tgt := 77) dX0_good_70 (by decide) (fun _ => ?_) (fun c => absurd c (by decide))
      refine r_iload_n dX0_good_77 rfl rfl ?_
      refine r_aload_n dX0_good_78 rfl rfl ?_
      refine r_getR (q := (b + 1)) dX0_good_79 (ci := 0) (kf := 0) hC.2.1 (Co_lt hC) (by decide) (by decide) rfl fl_X0_9 (Or.inl rfl) hC.2.2.2.1 ?_
      refine r_iconst (v := 0) dX0_good_82 (by decide) ?_
      refine r_iald (j := 0) dX0_good_83 hC.2.2.1.1 (Co_la1 hC) rfl (by decide) (by decide) ?_
      refine r_iadd dX0_good_84 ?_
      refine r_iret dX0_good_85 rfl (Nat.le_refl _) ?_
      (try dsimp only [Gs_M])
      refine dI_e ?_
      unfold goodR
      rw [vw_k hk, vw_o hk, vw_n hk hp, vw_1, vw_2]
      simp_all
    by_cases e_35_2 : S.2.2.2 (b + 3) k = 2
    · refine r_tableAt (tgt := 107) 2 dX0_good_35 e_35_2 (by decide) (by decide) rfl (by decide) ?_
      refine r_iload_n dX0_good_107 rfl rfl ?_
      refine r_iconst (v := 2) dX0_good_108 (by decide) ?_
      refine r_idiv dX0_good_109 (by decide) ?_
      refine r_iret dX0_good_110 rfl (Nat.le_refl _) ?_
      (try dsimp only [Gs_M])
      refine dI_e ?_
      unfold goodR
      rw [vw_k hk, vw_o hk, vw_n hk hp, vw_1, vw_2]
      simp_all
    by_cases e_35_3 : S.2.2.2 (b + 3) k = 3
    · refine r_tableAt (tgt := 86) 3 dX0_good_35 e_35_3 (by decide) (by decide) rfl (by decide) ?_
      refine r_iload dX0_good_86 rfl ?_
      refine r_if_eq (tgt := 95) dX0_good_88 (by decide) (fun _ => ?_) (fun c => absurd c (by decide))
      refine r_iload_n dX0_good_95 rfl rfl ?_
      refine r_aload_n dX0_good_96 rfl rfl ?_
      refine r_getR (q := (b + 1)) dX0_good_97 (ci := 0) (kf := 0) hC.2.1 (Co_lt hC) (by decide) (by decide) rfl fl_X0_9 (Or.inl rfl) hC.2.2.2.1 ?_
      refine r_iconst (v := 0) dX0_good_100 (by decide) ?_
      refine r_iald (j := 0) dX0_good_101 hC.2.2.1.1 (Co_la1 hC) rfl (by decide) (by decide) ?_
      refine r_iadd dX0_good_102 ?_
      refine r_bipush (v := 10) dX0_good_103 (by decide) ?_
      refine r_iadd dX0_good_105 ?_
      refine r_iret dX0_good_106 rfl (Nat.le_refl _) ?_
      (try dsimp only [Gs_M])
      refine dI_e ?_
      unfold goodR
      rw [vw_k hk, vw_o hk, vw_n hk hp, vw_1, vw_2]
      simp_all
    by_cases e_35_4 : S.2.2.2 (b + 3) k = 4
    · refine r_tableAt (tgt := 111) 4 dX0_good_35 e_35_4 (by decide) (by decide) rfl (by decide) ?_
      refine r_iload_n dX0_good_111 rfl rfl ?_
      refine r_iconst (v := 2) dX0_good_112 (by decide) ?_
      refine r_idiv dX0_good_113 (by decide) ?_
      refine r_iconst (v := 2) dX0_good_114 (by decide) ?_
      refine r_aload_n dX0_good_115 rfl rfl ?_
      refine r_getR (q := (b + 1)) dX0_good_116 (ci := 0) (kf := 0) hC.2.1 (Co_lt hC) (by decide) (by decide) rfl fl_X0_9 (Or.inl rfl) hC.2.2.2.1 ?_
      refine r_iconst (v := 1) dX0_good_119 (by decide) ?_
      refine r_iald (j := 1) dX0_good_120 hC.2.2.1.1 (Co_la1 hC) rfl (by decide) (by decide) ?_
      refine r_imul dX0_good_121 ?_
      refine r_iadd dX0_good_122 ?_
      refine r_iret dX0_good_123 rfl (Nat.le_refl _) ?_
      (try dsimp only [Gs_M])
      refine dI_e ?_
      unfold goodR
      rw [vw_k hk, vw_o hk, vw_n hk hp, vw_1, vw_2]
      simp_all
    by_cases e_35_5 : S.2.2.2 (b + 3) k = 5
    · refine r_tableAt (tgt := 124) 5 dX0_good_35 e_35_5 (by decide) (by decide) rfl (by decide) ?_
      refine r_iload dX0_good_124 rfl ?_
      refine r_if_eq (tgt := 135) dX0_good_126 (by decide) (fun _ => ?_) (fun c => absurd c (by decide))
      refine r_iconst (v := 0) dX0_good_135 (by decide) ?_
      refine r_iret dX0_good_136 rfl (Nat.le_refl _) ?_
      (try dsimp only [Gs_M])
      refine dI_e ?_
      unfold goodR
      rw [vw_k hk, vw_o hk, vw_n hk hp, vw_1, vw_2]
      simp_all
    refine r_tableOut (tgt := 137) dX0_good_35 (out_of2 (lo := 1) (n := 5) (by decide) (fun j hl hj => ?_)) (by decide) ?_
    · rcases (by omega : j = 1 ∨ j = 2 ∨ j = 3 ∨ j = 4 ∨ j = 5) with rfl | rfl | rfl | rfl | rfl
      · exact e_35_1
      · exact e_35_2
      · exact e_35_3
      · exact e_35_4
      · exact e_35_5
    refine r_iload_n dX0_good_137 rfl rfl ?_
    refine r_iret dX0_good_138 rfl (Nat.le_refl _) ?_
    (try dsimp only [Gs_M])
    refine dI_e ?_
    unfold goodR
    rw [vw_k hk, vw_o hk, vw_n hk hp, vw_1, vw_2]
    simp_all
  · (try dsimp only [Gs_M] at c_19)
    refine r_iconst (v := 1) dX0_good_22 (by decide) ?_
    refine r_goto (tgt := 27) dX0_good_23 (by decide) ?_
    refine r_istore dX0_good_27 (by decide) ?_
    refine r_aload_n dX0_good_29 rfl rfl ?_
    refine r_getR (q := (b + 3)) dX0_good_30 (ci := 0) (kf := 2) hC.2.1 (Co_lt hC) (by decide) (by decide) rfl fl_X0_18 (Or.inl rfl) hC.2.2.2.2.2.1 ?_
    refine r_iload_n dX0_good_33 rfl rfl ?_
    refine r_iald (j := k) dX0_good_34 hC.2.2.1.2.2.1 (Co_la3 hC) rfl (by omega) (by decide) ?_
    by_cases e_35_1 : S.2.2.2 (b + 3) k = 1
    · refine r_tableAt (tgt := 68) 1 dX0_good_35 e_35_1 (by decide) (by decide) rfl (by decide) ?_
      refine r_iload dX0_good_68 rfl ?_
      refine r_if_eq (tgt := 77) dX0_good_70 (by decide) (fun c => absurd c (by decide)) (fun _ => ?_)
      refine r_iload_n dX0_good_73 rfl rfl ?_
      refine r_goto (tgt := 85) dX0_good_74 (by decide) ?_
      refine r_iret dX0_good_85 rfl (Nat.le_refl _) ?_
      (try dsimp only [Gs_M])
      refine dI_e ?_
      unfold goodR
      rw [vw_k hk, vw_o hk, vw_n hk hp, vw_1, vw_2]
      simp_all
    by_cases e_35_2 : S.2.2.2 (b + 3) k = 2
    · refine r_tableAt (tgt := 107) 2 dX0_good_35 e_35_2 (by decide) (by decide) rfl (by decide) ?_
      refine r_iload_n dX0_good_107 rfl rfl ?_
      refine r_iconst (v := 2) dX0_good_108 (by decide) ?_
      refine r_idiv dX0_good_109 (by decide) ?_
      refine r_iret dX0_good_110 rfl (Nat.le_refl _) ?_
      (try dsimp only [Gs_M])
      refine dI_e ?_
      unfold goodR
      rw [vw_k hk, vw_o hk, vw_n hk hp, vw_1, vw_2]
      simp_all
    by_cases e_35_3 : S.2.2.2 (b + 3) k = 3
    · refine r_tableAt (tgt := 86) 3 dX0_good_35 e_35_3 (by decide) (by decide) rfl (by decide) ?_
      refine r_iload dX0_good_86 rfl ?_
      refine r_if_eq (tgt := 95) dX0_good_88 (by decide) (fun c => absurd c (by decide)) (fun _ => ?_)
      refine r_iload_n dX0_good_91 rfl rfl ?_
      refine r_goto (tgt := 106) dX0_good_92 (by decide) ?_
      refine r_iret dX0_good_106 rfl (Nat.le_refl _) ?_
      (try dsimp only [Gs_M])
      refine dI_e ?_
      unfold goodR
      rw [vw_k hk, vw_o hk, vw_n hk hp, vw_1, vw_2]
      simp_all
    by_cases e_35_4 : S.2.2.2 (b + 3) k = 4
    · refine r_tableAt (tgt := 111) 4 dX0_good_35 e_35_4 (by decide) (by decide) rfl (by decide) ?_
      refine r_iload_n dX0_good_111 rfl rfl ?_
      refine r_iconst (v := 2) dX0_good_112 (by decide) ?_
      refine r_idiv dX0_good_113 (by decide) ?_
      refine r_iconst (v := 2) dX0_good_114 (by decide) ?_
      refine r_aload_n dX0_good_115 rfl rfl ?_
      refine r_getR (q := (b + 1)) dX0_good_116 (ci := 0) (kf := 0) hC.2.1 (Co_lt hC) (by decide) (by decide) rfl fl_X0_9 (Or.inl rfl) hC.2.2.2.1 ?_
      refine r_iconst (v := 1) dX0_good_119 (by decide) ?_
      refine r_iald (j := 1) dX0_good_120 hC.2.2.1.1 (Co_la1 hC) rfl (by decide) (by decide) ?_
      refine r_imul dX0_good_121 ?_
      refine r_iadd dX0_good_122 ?_
      refine r_iret dX0_good_123 rfl (Nat.le_refl _) ?_
      (try dsimp only [Gs_M])
      refine dI_e ?_
      unfold goodR
      rw [vw_k hk, vw_o hk, vw_n hk hp, vw_1, vw_2]
      simp_all
    by_cases e_35_5 : S.2.2.2 (b + 3) k = 5
    · refine r_tableAt (tgt := 124) 5 dX0_good_35 e_35_5 (by decide) (by decide) rfl (by decide) ?_
      refine r_iload dX0_good_124 rfl ?_
      refine r_if_eq (tgt := 135) dX0_good_126 (by decide) (fun c => absurd c (by decide)) (fun _ => ?_)
      refine r_iload_n dX0_good_129 rfl rfl ?_
      refine r_iconst (v := 5) dX0_good_130 (by decide) ?_
      refine r_iadd dX0_good_131 ?_
      refine r_goto (tgt := 136) dX0_good_132 (by decide) ?_
      refine r_iret dX0_good_136 rfl (Nat.le_refl _) ?_
      (try dsimp only [Gs_M])
      refine dI_e ?_
      unfold goodR
      rw [vw_k hk, vw_o hk, vw_n hk hp, vw_1, vw_2]
      simp_all
    refine r_tableOut (tgt := 137) dX0_good_35 (out_of2 (lo := 1) (n := 5) (by decide) (fun j hl hj => ?_)) (by decide) ?_
    · rcases (by omega : j = 1 ∨ j = 2 ∨ j = 3 ∨ j = 4 ∨ j = 5) with rfl | rfl | rfl | rfl | rfl
      · exact e_35_1
      · exact e_35_2
      · exact e_35_3
      · exact e_35_4
      · exact e_35_5
    refine r_iload_n dX0_good_137 rfl rfl ?_
    refine r_iret dX0_good_138 rfl (Nat.le_refl _) ?_
    (try dsimp only [Gs_M])
    refine dI_e ?_
    unfold goodR
    rw [vw_k hk, vw_o hk, vw_n hk hp, vw_1, vw_2]
    simp_all
theorem lr_3 (h : Int32) : 2 + h - 1 = 1 + h := by
  apply Int32.toBitVec_inj.mp
  rw [Int32.toBitVec_sub, Int32.toBitVec_add, Int32.toBitVec_add]
  have h2 : (2 : Int32).toBitVec = 2#32 := rfl
  have h1 : (1 : Int32).toBitVec = 1#32 := rfl
  rw [h2, h1]
  generalize h.toBitVec = x
  apply BitVec.eq_of_toNat_eq
  simp
  omega
set_option maxRecDepth 20000 in
set_option maxHeartbeats 1000000 in
theorem s_X0_learns (g : pG) {S : pS} {b : Nat} (hC : Co S b) (k : Nat) (hk : k < 8) : MS g mX0_learns 1 0 0 [.ref b, .int (nI k)] (S) (dI (learnsR (vw S b) k) S) := by
  refine MS.of pn_X0 (Nat.le_of_ble_eq_true rfl) ?_
  refine r_aload_n dX0_learns_0 rfl rfl ?_
  refine r_getR (q := (b + 3)) dX0_learns_1 (ci := 0) (kf := 2) hC.2.1 (Co_lt hC) (by decide) (by decide) rfl fl_X0_18 (Or.inl rfl) hC.2.2.2.2.2.1 ?_
  refine r_iload_n dX0_learns_4 rfl rfl ?_
  refine r_iald (j := k) dX0_learns_5 hC.2.2.1.2.2.1 (Co_la3 hC) rfl (by omega) (by decide) ?_
  by_cases e_6_1 : S.2.2.2 (b + 3) k = 1
  · refine r_tableAt (tgt := 40) 1 dX0_learns_6 e_6_1 (by decide) (by decide) rfl (by decide) ?_
    refine r_iconst (v := 2) dX0_learns_40 (by decide) ?_
    refine r_aload_n dX0_learns_41 rfl rfl ?_
    refine r_getR (q := (b + 1)) dX0_learns_42 (ci := 0) (kf := 0) hC.2.1 (Co_lt hC) (by decide) (by decide) rfl fl_X0_9 (Or.inl rfl) hC.2.2.2.1 ?_
    refine r_iconst (v := 0) dX0_learns_45 (by decide) ?_
    refine r_iald (j := 0) dX0_learns_46 hC.2.2.1.1 (Co_la1 hC) rfl (by decide) (by decide) ?_
    refine r_iadd dX0_learns_47 ?_
    refine r_iret dX0_learns_48 rfl (Nat.le_refl _) ?_
    (try dsimp only [Gs_M])
    refine dI_e ?_
    unfold learnsR
    rw [vw_k hk, vw_1]
    (try rw [lr_3])
    simp_all
  by_cases e_6_2 : S.2.2.2 (b + 3) k = 2
  · refine r_tableAt (tgt := 60) 2 dX0_learns_6 e_6_2 (by decide) (by decide) rfl (by decide) ?_
    refine r_bipush (v := 6) dX0_learns_60 (by decide) ?_
    refine r_iret dX0_learns_62 rfl (Nat.le_refl _) ?_
    (try dsimp only [Gs_M])
    refine dI_e ?_
    unfold learnsR
    rw [vw_k hk, vw_1]
    (try rw [lr_3])
    simp_all
  by_cases e_6_3 : S.2.2.2 (b + 3) k = 3
  · refine r_tableAt (tgt := 49) 3 dX0_learns_6 e_6_3 (by decide) (by decide) rfl (by decide) ?_
    refine r_iconst (v := 2) dX0_learns_49 (by decide) ?_
    refine r_aload_n dX0_learns_50 rfl rfl ?_
    refine r_getR (q := (b + 1)) dX0_learns_51 (ci := 0) (kf := 0) hC.2.1 (Co_lt hC) (by decide) (by decide) rfl fl_X0_9 (Or.inl rfl) hC.2.2.2.1 ?_
    refine r_iconst (v := 0) dX0_learns_54 (by decide) ?_
    refine r_iald (j := 0) dX0_learns_55 hC.2.2.1.1 (Co_la1 hC) rfl (by decide) (by decide) ?_
    refine r_iadd dX0_learns_56 ?_
    refine r_iconst (v := 1) dX0_learns_57 (by decide) ?_
    refine r_isub dX0_learns_58 ?_
    refine r_iret dX0_learns_59 rfl (Nat.le_refl _) ?_
    (try dsimp only [Gs_M])
    refine dI_e ?_
    unfold learnsR
    rw [vw_k hk, vw_1]
    (try rw [lr_3])
    simp_all
  by_cases e_6_4 : S.2.2.2 (b + 3) k = 4
  · refine r_tableAt (tgt := 63) 4 dX0_learns_6 e_6_4 (by decide) (by decide) rfl (by decide) ?_
    refine r_iconst (v := 0) dX0_learns_63 (by decide) ?_
    refine r_iret dX0_learns_64 rfl (Nat.le_refl _) ?_
    (try dsimp only [Gs_M])
    refine dI_e ?_
    unfold learnsR
    rw [vw_k hk, vw_1]
    (try rw [lr_3])
    simp_all
  by_cases e_6_5 : S.2.2.2 (b + 3) k = 5
  · refine r_tableAt (tgt := 65) 5 dX0_learns_6 e_6_5 (by decide) (by decide) rfl (by decide) ?_
    refine r_iconst (v := (-1)) dX0_learns_65 (by decide) ?_
    refine r_iret dX0_learns_66 rfl (Nat.le_refl _) ?_
    (try dsimp only [Gs_M])
    refine dI_e ?_
    unfold learnsR
    rw [vw_k hk, vw_1]
    (try rw [lr_3])
    simp_all
  refine r_tableOut (tgt := 67) dX0_learns_6 (out_of2 (lo := 1) (n := 5) (by decide) (fun j hl hj => ?_)) (by decide) ?_
  · rcases (by omega : j = 1 ∨ j = 2 ∨ j = 3 ∨ j = 4 ∨ j = 5) with rfl | rfl | rfl | rfl | rfl
    · exact e_6_1
    · exact e_6_2
    · exact e_6_3
    · exact e_6_4
    · exact e_6_5
  refine r_iconst (v := 2) dX0_learns_67 (by decide) ?_
  refine r_iret dX0_learns_68 rfl (Nat.le_refl _) ?_
  (try dsimp only [Gs_M])
  refine dI_e ?_
  unfold learnsR
  rw [vw_k hk, vw_1]
  (try rw [lr_3])
  simp_all
set_option maxRecDepth 20000 in
set_option maxHeartbeats 1000000 in
theorem s_X0_forgets (g : pG) {S : pS} {b : Nat} (hC : Co S b) (k : Nat) (hk : k < 8) : MS g mX0_forgets 1 0 0 [.ref b, .int (nI k)] (S) (dI (forgetsR (vw S b) k) S) := by
  refine MS.of pn_X0 (Nat.le_of_ble_eq_true rfl) ?_
  refine r_aload_n dX0_forgets_0 rfl rfl ?_
  refine r_getR (q := (b + 3)) dX0_forgets_1 (ci := 0) (kf := 2) hC.2.1 (Co_lt hC) (by decide) (by decide) rfl fl_X0_18 (Or.inl rfl) hC.2.2.2.2.2.1 ?_
  refine r_iload_n dX0_forgets_4 rfl rfl ?_
  refine r_iald (j := k) dX0_forgets_5 hC.2.2.1.2.2.1 (Co_la3 hC) rfl (by omega) (by decide) ?_
  by_cases e_6_1 : S.2.2.2 (b + 3) k = 1
  · refine r_tableAt (tgt := 40) 1 dX0_forgets_6 e_6_1 (by decide) (by decide) rfl (by decide) ?_
    refine r_iconst (v := 0) dX0_forgets_40 (by decide) ?_
    refine r_iret dX0_forgets_41 rfl (Nat.le_refl _) ?_
    (try dsimp only [Gs_M])
    refine dI_e ?_
    unfold forgetsR
    rw [vw_k hk, vw_2]
    simp_all
  by_cases e_6_2 : S.2.2.2 (b + 3) k = 2
  · refine r_tableAt (tgt := 42) 2 dX0_forgets_6 e_6_2 (by decide) (by decide) rfl (by decide) ?_
    refine r_iconst (v := 2) dX0_forgets_42 (by decide) ?_
    refine r_iret dX0_forgets_43 rfl (Nat.le_refl _) ?_
    (try dsimp only [Gs_M])
    refine dI_e ?_
    unfold forgetsR
    rw [vw_k hk, vw_2]
    simp_all
  by_cases e_6_3 : S.2.2.2 (b + 3) k = 3
  · refine r_tableAt (tgt := 40) 3 dX0_forgets_6 e_6_3 (by decide) (by decide) rfl (by decide) ?_
    refine r_iconst (v := 0) dX0_forgets_40 (by decide) ?_
    refine r_iret dX0_forgets_41 rfl (Nat.le_refl _) ?_
    (try dsimp only [Gs_M])
    refine dI_e ?_
    unfold forgetsR
    rw [vw_k hk, vw_2]
    simp_all
  by_cases e_6_4 : S.2.2.2 (b + 3) k = 4
  · refine r_tableAt (tgt := 44) 4 dX0_forgets_6 e_6_4 (by decide) (by decide) rfl (by decide) ?_
    refine r_iconst (v := 2) dX0_forgets_44 (by decide) ?_
    refine r_aload_n dX0_forgets_45 rfl rfl ?_
    refine r_getR (q := (b + 1)) dX0_forgets_46 (ci := 0) (kf := 0) hC.2.1 (Co_lt hC) (by decide) (by decide) rfl fl_X0_9 (Or.inl rfl) hC.2.2.2.1 ?_
    refine r_iconst (v := 1) dX0_forgets_49 (by decide) ?_
    refine r_iald (j := 1) dX0_forgets_50 hC.2.2.1.1 (Co_la1 hC) rfl (by decide) (by decide) ?_
    refine r_isub dX0_forgets_51 ?_
    refine r_iret dX0_forgets_52 rfl (Nat.le_refl _) ?_
    (try dsimp only [Gs_M])
    refine dI_e ?_
    unfold forgetsR
    rw [vw_k hk, vw_2]
    simp_all
  by_cases e_6_5 : S.2.2.2 (b + 3) k = 5
  · refine r_tableAt (tgt := 53) 5 dX0_forgets_6 e_6_5 (by decide) (by decide) rfl (by decide) ?_
    refine r_iconst (v := 2) dX0_forgets_53 (by decide) ?_
    refine r_iret dX0_forgets_54 rfl (Nat.le_refl _) ?_
    (try dsimp only [Gs_M])
    refine dI_e ?_
    unfold forgetsR
    rw [vw_k hk, vw_2]
    simp_all
  refine r_tableOut (tgt := 55) dX0_forgets_6 (out_of2 (lo := 1) (n := 5) (by decide) (fun j hl hj => ?_)) (by decide) ?_
  · rcases (by omega : j = 1 ∨ j = 2 ∨ j = 3 ∨ j = 4 ∨ j = 5) with rfl | rfl | rfl | rfl | rfl
    · exact e_6_1
    · exact e_6_2
    · exact e_6_3
    · exact e_6_4
    · exact e_6_5
  refine r_iconst (v := 1) dX0_forgets_55 (by decide) ?_
  refine r_iret dX0_forgets_56 rfl (Nat.le_refl _) ?_
  (try dsimp only [Gs_M])
  refine dI_e ?_
  unfold forgetsR
  rw [vw_k hk, vw_2]
  simp_all
