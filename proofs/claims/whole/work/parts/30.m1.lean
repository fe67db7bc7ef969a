set_option maxRecDepth 20000 in
set_option maxHeartbeats 1000000 in
theorem s_X12_in1 (g : pG) (v lo hi : Int32) (S : pS) : MS g mX12_in1 1 0 0 [.int v, .int lo, .int hi] (S) (dI (bI (lo ≤ v ∧ v ≤ hi)) S) := by
  refine MS.of pn_X12 (Nat.le_of_ble_eq_true rfl) ?_
  refine r_iload_n dX12_in1_0 rfl rfl ?_
  refine r_iload_n dX12_in1_1 rfl rfl ?_
  refine r_icmp_lt (tgt := 14) dX12_in1_2 (by decide) (fun c_2 => ?_) (fun c_2 => ?_)
  · refine r_iconst (v := 0) dX12_in1_14 (by decide) ?_
    refine r_zret dX12_in1_15 rfl rfl (Nat.le_refl _) ?_
    exact dI_f (by simp only [Int32.lt_iff_toInt_lt, Int32.le_iff_toInt_le] at *; omega)
  · refine r_iload_n dX12_in1_5 rfl rfl ?_
    refine r_iload_n dX12_in1_6 rfl rfl ?_
    refine r_icmp_gt (tgt := 14) dX12_in1_7 (by decide) (fun c_7 => ?_) (fun c_7 => ?_)
    · refine r_iconst (v := 0) dX12_in1_14 (by decide) ?_
      refine r_zret dX12_in1_15 rfl rfl (Nat.le_refl _) ?_
      exact dI_f (by simp only [Int32.lt_iff_toInt_lt, Int32.le_iff_toInt_le] at *; omega)
    · refine r_iconst (v := 1) dX12_in1_10 (by decide) ?_
      refine r_goto (tgt := 15) dX12_in1_11 (by decide) ?_
      refine r_zret dX12_in1_15 rfl rfl (Nat.le_refl _) ?_
      exact dI_t (by simp only [Int32.lt_iff_toInt_lt, Int32.le_iff_toInt_le] at *; omega)
set_option maxRecDepth 20000 in
set_option maxHeartbeats 1000000 in
theorem s_X12_held (g : pG) (v m : Int32) (S : pS) : MS g mX12_held 1 0 0 [.int v, .int m] (S) (dI (heldR v m) S) := by
  refine MS.of pn_X12 (Nat.le_of_ble_eq_true rfl) ?_
  refine r_iload_n dX12_held_0 rfl rfl ?_
  refine r_if_ge (tgt := 8) dX12_held_1 (by decide) (fun c_1 => ?_) (fun c_1 => ?_)
  · refine r_iload_n dX12_held_8 rfl rfl ?_
    refine r_iload_n dX12_held_9 rfl rfl ?_
    refine r_icmp_le (tgt := 17) dX12_held_10 (by decide) (fun c_10 => ?_) (fun c_10 => ?_)
    · refine r_iload_n dX12_held_17 rfl rfl ?_
      refine r_iret dX12_held_18 rfl (Nat.le_refl _) ?_
      refine dI_e ?_
      (unfold heldR; repeat' split) <;> first | rfl | (exfalso; simp only [Int32.lt_iff_toInt_lt, Int32.le_iff_toInt_le] at *; omega)
    · refine r_iload_n dX12_held_13 rfl rfl ?_
      refine r_goto (tgt := 18) dX12_held_14 (by decide) ?_
      refine r_iret dX12_held_18 rfl (Nat.le_refl _) ?_
      refine dI_e ?_
      (unfold heldR; repeat' split) <;> first | rfl | (exfalso; simp only [Int32.lt_iff_toInt_lt, Int32.le_iff_toInt_le] at *; omega)
  · refine r_iconst (v := 0) dX12_held_4 (by decide) ?_
    refine r_goto (tgt := 18) dX12_held_5 (by decide) ?_
    refine r_iret dX12_held_18 rfl (Nat.le_refl _) ?_
    refine dI_e ?_
    (unfold heldR; repeat' split) <;> first | rfl | (exfalso; simp only [Int32.lt_iff_toInt_lt, Int32.le_iff_toInt_le] at *; omega)
set_option maxRecDepth 20000 in
set_option maxHeartbeats 1000000 in
theorem s_X12_isPlayer (g : pG) {S : pS} (hS : sOk S) (x : Int32) : MS g mX12_isPlayer 2 0 0 [.ref 54, .int x] (S) (dI (bI (0 ≤ x ∧ x ≤ S.2.2.2 55 6 - 1)) S) := by
  obtain ⟨M, rfl⟩ := sOk_gs hS
  refine MS.of pn_X12 (Nat.le_of_ble_eq_true rfl) ?_
  refine r_iload_n dX12_isPlayer_0 rfl rfl ?_
  refine r_iconst (v := 0) dX12_isPlayer_1 (by decide) ?_
  refine r_aload_n dX12_isPlayer_2 rfl rfl ?_
  refine r_getR (q := 55) dX12_isPlayer_3 (ci := 12) (kf := 0) rfl (Nat.le_of_ble_eq_true rfl) (by decide) (by decide) rfl fl_X12_9 (Or.inl rfl) rfl ?_
  refine r_bipush (v := 6) dX12_isPlayer_6 (by decide) ?_
  refine r_iald (j := 6) dX12_isPlayer_8 rfl (Nat.le_of_ble_eq_true rfl) rfl (by decide) (by decide) ?_
  refine r_iconst (v := 1) dX12_isPlayer_9 (by decide) ?_
  refine r_isub dX12_isPlayer_10 ?_
  refine r_callS_dI dX12_isPlayer_11 (s_X12_in1 g _ _ _ _) mf_X12_in1 mt_X12_in1 ml_X12_63 rfl rfl (Nat.le_of_ble_eq_true rfl) ⟨(Nat.le_of_ble_eq_true rfl), (Nat.le_of_ble_eq_true rfl)⟩ ⟨(Nat.le_of_ble_eq_true rfl), (Nat.le_of_ble_eq_true rfl)⟩ ?_
  refine r_zret dX12_isPlayer_14 rfl bI_z (Nat.le_refl _) ?_
  exact ⟨rfl, rfl⟩
set_option maxRecDepth 20000 in
set_option maxHeartbeats 1000000 in
theorem s_X12_get (g : pG) {S : pS} (hS : sOk S) (a f : Nat) (ha : a < 8) (hf : f < 11) : MS g mX12_get 1 0 0 [.ref 54, .int (nI a), .int (nI f)] (S) (dI (S.2.2.2 55 (16 + 11 * a + f)) S) := by
  obtain ⟨M, rfl⟩ := sOk_gs hS
  refine MS.of pn_X12 (Nat.le_of_ble_eq_true rfl) ?_
  refine r_aload_n dX12_get_0 rfl rfl ?_
  refine r_getR (q := 55) dX12_get_1 (ci := 12) (kf := 0) rfl (Nat.le_of_ble_eq_true rfl) (by decide) (by decide) rfl fl_X12_9 (Or.inl rfl) rfl ?_
  refine r_bipush (v := 16) dX12_get_4 (by decide) ?_
  refine r_bipush (v := 11) dX12_get_6 (by decide) ?_
  refine r_iload_n dX12_get_8 rfl rfl ?_
  refine r_imulN (11) (a) dX12_get_9 ?_
  refine r_iaddN (16) ((11 * a)) dX12_get_10 ?_
  refine r_iload_n dX12_get_11 rfl rfl ?_
  refine r_iaddN ((16 + (11 * a))) (f) dX12_get_12 ?_
  refine r_iald (j := ((16 + (11 * a)) + f)) dX12_get_13 rfl (Nat.le_of_ble_eq_true rfl) rfl (by omega) (by decide) ?_
  refine r_iret dX12_get_14 rfl (Nat.le_refl _) ?_
  exact ⟨rfl, rfl⟩
set_option maxRecDepth 20000 in
set_option maxHeartbeats 1000000 in
theorem s_X12_puts (g : pG) {S : pS} (hS : sOk S) (a f : Nat) (ha : a < 8) (hf : f < 11) (v : Int32) : MS g mX12_puts 1 0 0 [.ref 54, .int (nI a), .int (nI f), .int v] (S) (dV (mSet S 55 (16 + 11 * a + f) v)) := by
  obtain ⟨M, rfl⟩ := sOk_gs hS
  refine MS.of pn_X12 (Nat.le_of_ble_eq_true rfl) ?_
  refine r_aload_n dX12_puts_0 rfl rfl ?_
  refine r_getR (q := 55) dX12_puts_1 (ci := 12) (kf := 0) rfl (Nat.le_of_ble_eq_true rfl) (by decide) (by decide) rfl fl_X12_9 (Or.inl rfl) rfl ?_
  refine r_bipush (v := 16) dX12_puts_4 (by decide) ?_
  refine r_bipush (v := 11) dX12_puts_6 (by decide) ?_
  refine r_iload_n dX12_puts_8 rfl rfl ?_
  refine r_imulN (11) (a) dX12_puts_9 ?_
  refine r_iaddN (16) ((11 * a)) dX12_puts_10 ?_
  refine r_iload_n dX12_puts_11 rfl rfl ?_
  refine r_iaddN ((16 + (11 * a))) (f) dX12_puts_12 ?_
  refine r_iload_n dX12_puts_13 rfl rfl ?_
  refine r_iast (j := ((16 + (11 * a)) + f)) dX12_puts_14 rfl (Nat.le_of_ble_eq_true rfl) rfl (by omega) (by decide) ?_
  refine r_vret dX12_puts_15 rfl (Nat.le_refl _) ?_
  exact ⟨rfl, rfl⟩
set_option maxRecDepth 20000 in
set_option maxHeartbeats 1000000 in
theorem s_X12_becomes (g : pG) {S : pS} (hS : sOk S) (a : Nat) (ha : a < 104) (v : Int32) : MS g mX12_becomes 1 0 0 [.ref 54, .int (nI a), .int v] (S) (dI (S.2.2.2 55 a) (mSet S 55 a v)) := by
  obtain ⟨M, rfl⟩ := sOk_gs hS
  refine MS.of pn_X12 (Nat.le_of_ble_eq_true rfl) ?_
  refine r_aload_n dX12_becomes_0 rfl rfl ?_
  refine r_getR (q := 55) dX12_becomes_1 (ci := 12) (kf := 0) rfl (Nat.le_of_ble_eq_true rfl) (by decide) (by decide) rfl fl_X12_9 (Or.inl rfl) rfl ?_
  refine r_iload_n dX12_becomes_4 rfl rfl ?_
  refine r_iald (j := a) dX12_becomes_5 rfl (Nat.le_of_ble_eq_true rfl) rfl (by omega) (by decide) ?_
  refine r_istore_n dX12_becomes_6 rfl (by decide) ?_
  refine r_aload_n dX12_becomes_7 rfl rfl ?_
  refine r_getR (q := 55) dX12_becomes_8 (ci := 12) (kf := 0) rfl (Nat.le_of_ble_eq_true rfl) (by decide) (by decide) rfl fl_X12_9 (Or.inl rfl) rfl ?_
  refine r_iload_n dX12_becomes_11 rfl rfl ?_
  refine r_iload_n dX12_becomes_12 rfl rfl ?_
  refine r_iast (j := a) dX12_becomes_13 rfl (Nat.le_of_ble_eq_true rfl) rfl (by omega) (by decide) ?_
  refine r_iload_n dX12_becomes_14 rfl rfl ?_
  refine r_iret dX12_becomes_15 rfl (Nat.le_refl _) ?_
  exact ⟨rfl, rfl⟩
set_option maxRecDepth 20000 in
set_option maxHeartbeats 1000000 in
theorem s_X12_isPart (g : pG) (x : Int32) (S : pS) : MS g mX12_isPart 2 0 0 [.int x] (S) (dI (bI (0 ≤ x ∧ x ≤ 7)) S) := by
  refine MS.of pn_X12 (Nat.le_of_ble_eq_true rfl) ?_
  refine r_iload_n dX12_isPart_0 rfl rfl ?_
  refine r_iconst (v := 0) dX12_isPart_1 (by decide) ?_
  refine r_bipush (v := 7) dX12_isPart_2 (by decide) ?_
  refine r_callS_dI dX12_isPart_4 (s_X12_in1 g _ _ _ _) mf_X12_in1 mt_X12_in1 ml_X12_63 rfl rfl (Nat.le_of_ble_eq_true rfl) ⟨(Nat.le_of_ble_eq_true rfl), (Nat.le_of_ble_eq_true rfl)⟩ ⟨(Nat.le_of_ble_eq_true rfl), (Nat.le_of_ble_eq_true rfl)⟩ ?_
  refine r_zret dX12_isPart_7 rfl bI_z (Nat.le_refl _) ?_
  exact ⟨rfl, rfl⟩
set_option maxRecDepth 20000 in
set_option maxHeartbeats 1000000 in
theorem s_X12_isLaw (g : pG) (x : Int32) (S : pS) : MS g mX12_isLaw 2 0 0 [.int x] (S) (dI (bI (0 ≤ x ∧ x ≤ 3)) S) := by
  refine MS.of pn_X12 (Nat.le_of_ble_eq_true rfl) ?_
  refine r_iload_n dX12_isLaw_0 rfl rfl ?_
  refine r_iconst (v := 0) dX12_isLaw_1 (by decide) ?_
  refine r_iconst (v := 3) dX12_isLaw_2 (by decide) ?_
  refine r_callS_dI dX12_isLaw_3 (s_X12_in1 g _ _ _ _) mf_X12_in1 mt_X12_in1 ml_X12_63 rfl rfl (Nat.le_of_ble_eq_true rfl) ⟨(Nat.le_of_ble_eq_true rfl), (Nat.le_of_ble_eq_true rfl)⟩ ⟨(Nat.le_of_ble_eq_true rfl), (Nat.le_of_ble_eq_true rfl)⟩ ?_
  refine r_zret dX12_isLaw_6 rfl bI_z (Nat.le_refl _) ?_
  exact ⟨rfl, rfl⟩
set_option maxRecDepth 20000 in
set_option maxHeartbeats 1000000 in
theorem s_X12_isSheet (g : pG) (x : Int32) (S : pS) : MS g mX12_isSheet 2 0 0 [.int x] (S) (dI (bI (0 ≤ x ∧ x ≤ 3)) S) := by
  refine MS.of pn_X12 (Nat.le_of_ble_eq_true rfl) ?_
  refine r_iload_n dX12_isSheet_0 rfl rfl ?_
  refine r_iconst (v := 0) dX12_isSheet_1 (by decide) ?_
  refine r_iconst (v := 3) dX12_isSheet_2 (by decide) ?_
  refine r_callS_dI dX12_isSheet_3 (s_X12_in1 g _ _ _ _) mf_X12_in1 mt_X12_in1 ml_X12_63 rfl rfl (Nat.le_of_ble_eq_true rfl) ⟨(Nat.le_of_ble_eq_true rfl), (Nat.le_of_ble_eq_true rfl)⟩ ⟨(Nat.le_of_ble_eq_true rfl), (Nat.le_of_ble_eq_true rfl)⟩ ?_
  refine r_zret dX12_isSheet_6 rfl bI_z (Nat.le_refl _) ?_
  exact ⟨rfl, rfl⟩
set_option maxRecDepth 20000 in
set_option maxHeartbeats 1000000 in
theorem s_X12_isSoon (g : pG) (x : Int32) (S : pS) : MS g mX12_isSoon 2 0 0 [.int x] (S) (dI (bI (1 ≤ x ∧ x ≤ 30)) S) := by
  refine MS.of pn_X12 (Nat.le_of_ble_eq_true rfl) ?_
  refine r_iload_n dX12_isSoon_0 rfl rfl ?_
  refine r_iconst (v := 1) dX12_isSoon_1 (by decide) ?_
  refine r_bipush (v := 30) dX12_isSoon_2 (by decide) ?_
  refine r_callS_dI dX12_isSoon_4 (s_X12_in1 g _ _ _ _) mf_X12_in1 mt_X12_in1 ml_X12_63 rfl rfl (Nat.le_of_ble_eq_true rfl) ⟨(Nat.le_of_ble_eq_true rfl), (Nat.le_of_ble_eq_true rfl)⟩ ⟨(Nat.le_of_ble_eq_true rfl), (Nat.le_of_ble_eq_true rfl)⟩ ?_
  refine r_zret dX12_isSoon_7 rfl bI_z (Nat.le_refl _) ?_
  exact ⟨rfl, rfl⟩
set_option maxRecDepth 20000 in
set_option maxHeartbeats 1000000 in
theorem s_X12_goodAt (g : pG) {S : pS} (hS : sOk S) (a p : Nat) (ha : a < 8) (hp : p < 8) : MS g mX12_goodAt 2 0 0 [.ref 54, .int (nI a), .int (nI p)] (S) (dI (goodR (S.2.2.2 55) a p) S) := by
  obtain ⟨M, rfl⟩ := sOk_gs hS
  refine MS.of pn_X12 (Nat.le_of_ble_eq_true rfl) ?_
  refine r_aload_n dX12_goodAt_0 rfl rfl ?_
  refine r_iload_n dX12_goodAt_1 rfl rfl ?_
  refine r_iconst (v := 3) dX12_goodAt_2 (by decide) ?_
  refine r_iload_n dX12_goodAt_3 rfl rfl ?_
  refine r_iaddN (3) (p) dX12_goodAt_4 ?_
  refine r_callV_dI (ci := 12) dX12_goodAt_5 (s_X12_get g (by exact ⟨rfl, rfl, rfl⟩) (a) ((3 + p)) (by omega) (by omega)) mf_X12_get mi_X12_get se_X12_X12_X12_get ml_X12_67 rfl rfl (Nat.le_of_ble_eq_true rfl) rfl (by decide) rfl (Nat.le_of_ble_eq_true rfl) ⟨(Nat.le_of_ble_eq_true rfl), (Nat.le_of_ble_eq_true rfl)⟩ ⟨(Nat.le_of_ble_eq_true rfl), (Nat.le_of_ble_eq_true rfl)⟩ ?_
  refine r_istore_n dX12_goodAt_8 rfl (by decide) ?_
  refine r_aload_n dX12_goodAt_9 rfl rfl ?_
  refine r_iload_n dX12_goodAt_10 rfl rfl ?_
  refine r_iconst (v := 1) dX12_goodAt_11 (by decide) ?_
  refine r_callV_dI (ci := 12) dX12_goodAt_12 (s_X12_get g (by exact ⟨rfl, rfl, rfl⟩) (a) (1) (by omega) (by omega)) mf_X12_get mi_X12_get se_X12_X12_X12_get ml_X12_67 rfl rfl (Nat.le_of_ble_eq_true rfl) rfl (by decide) rfl (Nat.le_of_ble_eq_true rfl) ⟨(Nat.le_of_ble_eq_true rfl), (Nat.le_of_ble_eq_true rfl)⟩ ⟨(Nat.le_of_ble_eq_true rfl), (Nat.le_of_ble_eq_true rfl)⟩ ?_
  refine r_iload_n dX12_goodAt_15 rfl rfl ?_
  refine r_icmp_ne (tgt := 23) dX12_goodAt_16 (by decide) (fun c_16 => ?_) (fun c_16 => ?_)
  · refine r_iconst (v := 0) dX12_goodAt_23 (by decide) ?_
    refine r_istore dX12_goodAt_24 (by decide) ?_
    refine r_aload_n dX12_goodAt_26 rfl rfl ?_
    refine r_iload_n dX12_goodAt_27 rfl rfl ?_
    refine r_iconst (v := 0) dX12_goodAt_28 (by decide) ?_
    refine r_callV_dI (ci := 12) dX12_goodAt_29 (s_X12_get g (by exact ⟨rfl, rfl, rfl⟩) (a) (0) (by omega) (by omega)) mf_X12_get mi_X12_get se_X12_X12_X12_get ml_X12_67 rfl rfl (Nat.le_of_ble_eq_true rfl) rfl (by decide) rfl (Nat.le_of_ble_eq_true rfl) ⟨(Nat.le_of_ble_eq_true rfl), (Nat.le_of_ble_eq_true rfl)⟩ ⟨(Nat.le_of_ble_eq_true rfl), (Nat.le_of_ble_eq_true rfl)⟩ ?_
    by_cases e_32_1 : M 55 (16 + 11 * a + 0) = 1
    · refine r_tableAt (tgt := 68) 1 dX12_goodAt_32 e_32_1 (by decide) (by decide) rfl (by decide) ?_
      refine r_iload dX12_goodAt_68 rfl ?_
      refine r_if_eq (tgt := 77) dX12_goodAt_70 (by decide) (fun _ => ?_) (fun c => absurd c (by decide))
      refine r_iload_n dX12_goodAt_77 rfl rfl ?_
      refine r_aload_n dX12_goodAt_78 rfl rfl ?_
      refine r_getR (q := 55) dX12_goodAt_79 (ci := 12) (kf := 0) rfl (Nat.le_of_ble_eq_true rfl) (by decide) (by decide) rfl fl_X12_9 (Or.inl rfl) rfl ?_
      refine r_iconst (v := 1) dX12_goodAt_82 (by decide) ?_
      refine r_iald (j := 1) dX12_goodAt_83 rfl (Nat.le_of_ble_eq_true rfl) rfl (by decide) (by decide) ?_
      refine r_iadd dX12_goodAt_84 ?_
      refine r_iret dX12_goodAt_85 rfl (Nat.le_refl _) ?_
      refine dI_e ?_
      simp_all [goodR, Gs]
    by_cases e_32_2 : M 55 (16 + 11 * a + 0) = 2
    · refine r_tableAt (tgt := 86) 2 dX12_goodAt_32 e_32_2 (by decide) (by decide) rfl (by decide) ?_
      refine r_iload_n dX12_goodAt_86 rfl rfl ?_
      refine r_iconst (v := 2) dX12_goodAt_87 (by decide) ?_
      refine r_idiv dX12_goodAt_88 (by decide) ?_
      refine r_iret dX12_goodAt_89 rfl (Nat.le_refl _) ?_
      refine dI_e ?_
      simp_all [goodR, Gs]
    by_cases e_32_3 : M 55 (16 + 11 * a + 0) = 3
    · refine r_tableAt (tgt := 90) 3 dX12_goodAt_32 e_32_3 (by decide) (by decide) rfl (by decide) ?_
      refine r_iload dX12_goodAt_90 rfl ?_
      refine r_if_eq (tgt := 99) dX12_goodAt_92 (by decide) (fun _ => ?_) (fun c => absurd c (by decide))
      refine r_iload_n dX12_goodAt_99 rfl rfl ?_
      refine r_aload_n dX12_goodAt_100 rfl rfl ?_
      refine r_getR (q := 55) dX12_goodAt_101 (ci := 12) (kf := 0) rfl (Nat.le_of_ble_eq_true rfl) (by decide) (by decide) rfl fl_X12_9 (Or.inl rfl) rfl ?_
      refine r_iconst (v := 1) dX12_goodAt_104 (by decide) ?_
      refine r_iald (j := 1) dX12_goodAt_105 rfl (Nat.le_of_ble_eq_true rfl) rfl (by decide) (by decide) ?_
      refine r_iadd dX12_goodAt_106 ?_
      refine r_bipush (v := 10) dX12_goodAt_107 (by decide) ?_
      refine r_iadd dX12_goodAt_109 ?_
      refine r_iret dX12_goodAt_110 rfl (Nat.le_refl _) ?_
      refine dI_e ?_
      simp_all [goodR, Gs]
    by_cases e_32_4 : M 55 (16 + 11 * a + 0) = 4
    · refine r_tableAt (tgt := 111) 4 dX12_goodAt_32 e_32_4 (by decide) (by decide) rfl (by decide) ?_
      refine r_iload_n dX12_goodAt_111 rfl rfl ?_
      refine r_iconst (v := 2) dX12_goodAt_112 (by decide) ?_
      refine r_idiv dX12_goodAt_113 (by decide) ?_
      refine r_iconst (v := 2) dX12_goodAt_114 (by decide) ?_
      refine r_aload_n dX12_goodAt_115 rfl rfl ?_
      refine r_getR (q := 55) dX12_goodAt_116 (ci := 12) (kf := 0) rfl (Nat.le_of_ble_eq_true rfl) (by decide) (by decide) rfl fl_X12_9 (Or.inl rfl) rfl ?_
      refine r_iconst (v := 2) dX12_goodAt_119 (by decide) ?_
      refine r_iald (j := 2) dX12_goodAt_120 rfl (Nat.le_of_ble_eq_true rfl) rfl (by decide) (by decide) ?_
      refine r_imul dX12_goodAt_121 ?_
      refine r_iadd dX12_goodAt_122 ?_
      refine r_iret dX12_goodAt_123 rfl (Nat.le_refl _) ?_
      refine dI_e ?_
      simp_all [goodR, Gs]
    by_cases e_32_5 : M 55 (16 + 11 * a + 0) = 5
    · refine r_tableAt (tgt := 124) 5 dX12_goodAt_32 e_32_5 (by decide) (by decide) rfl (by decide) ?_
      refine r_iload dX12_goodAt_124 rfl ?_
      refine r_if_eq (tgt := 135) dX12_goodAt_126 (by decide) (fun _ => ?_) (fun c => absurd c (by decide))
      refine r_iconst (v := 0) dX12_goodAt_135 (by decide) ?_
      refine r_iret dX12_goodAt_136 rfl (Nat.le_refl _) ?_
      refine dI_e ?_
      simp_all [goodR, Gs]
    refine r_tableOut (tgt := 137) dX12_goodAt_32 (out_of2 (lo := 1) (n := 5) (by decide) (fun j hl hj => ?_)) (by decide) ?_
    · rcases (by omega : j = 1 ∨ j = 2 ∨ j = 3 ∨ j = 4 ∨ j = 5) with rfl | rfl | rfl | rfl | rfl
      · exact e_32_1
      · exact e_32_2
      · exact e_32_3
      · exact e_32_4
      · exact e_32_5
    refine r_iload_n dX12_goodAt_137 rfl rfl ?_
    refine r_iret dX12_goodAt_138 rfl (Nat.le_refl _) ?_
    refine dI_e ?_
    simp_all [goodR, Gs]
  · refine r_iconst (v := 1) dX12_goodAt_19 (by decide) ?_
    refine r_goto (tgt := 24) dX12_goodAt_20 (by decide) ?_
    refine r_istore dX12_goodAt_24 (by decide) ?_
    refine r_aload_n dX12_goodAt_26 rfl rfl ?_
    refine r_iload_n dX12_goodAt_27 rfl rfl ?_
    refine r_iconst (v := 0) dX12_goodAt_28 (by decide) ?_
    refine r_callV_dI (ci := 12) dX12_goodAt_29 (s_X12_get g (by exact ⟨rfl, rfl, rfl⟩) (a) (0) (by omega) (by omega)) mf_X12_get mi_X12_get se_X12_X12_X12_get ml_X12_67 rfl rfl (Nat.le_of_ble_eq_true rfl) rfl (by decide) rfl (Nat.le_of_ble_eq_true rfl) ⟨(Nat.le_of_ble_eq_true rfl), (Nat.le_of_ble_eq_true rfl)⟩ ⟨(Nat.le_of_ble_eq_true rfl), (Nat.le_of_ble_eq_true rfl)⟩ ?_
    by_cases e_32_1 : M 55 (16 + 11 * a + 0) = 1
    · refine r_tableAt (tgt := 68) 1 dX12_goodAt_32 e_32_1 (by decide) (by decide) rfl (by decide) ?_
      refine r_iload dX12_goodAt_68 rfl ?_
      refine r_if_eq (tgt := 77) dX12_goodAt_70 (by decide) (fun c => absurd c (by decide)) (fun _ => ?_)
      refine r_iload_n dX12_goodAt_73 rfl rfl ?_
      refine r_goto (tgt := 85) dX12_goodAt_74 (by decide) ?_
      refine r_iret dX12_goodAt_85 rfl (Nat.le_refl _) ?_
      refine dI_e ?_
      simp_all [goodR, Gs]
    by_cases e_32_2 : M 55 (16 + 11 * a + 0) = 2
    · refine r_tableAt (tgt := 86) 2 dX12_goodAt_32 e_32_2 (by decide) (by decide) rfl (by decide) ?_
      refine r_iload_n dX12_goodAt_86 rfl rfl ?_
      refine r_iconst (v := 2) dX12_goodAt_87 (by decide) ?_
      refine r_idiv dX12_goodAt_88 (by decide) ?_
      refine r_iret dX12_goodAt_89 rfl (Nat.le_refl _) ?_
      refine dI_e ?_
      simp_all [goodR, Gs]
    by_cases e_32_3 : M 55 (16 + 11 * a + 0) = 3
    · refine r_tableAt (tgt := 90) 3 dX12_goodAt_32 e_32_3 (by decide) (by decide) rfl (by decide) ?_
      refine r_iload dX12_goodAt_90 rfl ?_
      refine r_if_eq (tgt := 99) dX12_goodAt_92 (by decide) (fun c => absurd c (by decide)) (fun _ => ?_)
      refine r_iload_n dX12_goodAt_95 rfl rfl ?_
      refine r_goto (tgt := 110) dX12_goodAt_96 (by decide) ?_
      refine r_iret dX12_goodAt_110 rfl (Nat.le_refl _) ?_
      refine dI_e ?_
      simp_all [goodR, Gs]
    by_cases e_32_4 : M 55 (16 + 11 * a + 0) = 4
    · refine r_tableAt (tgt := 111) 4 dX12_goodAt_32 e_32_4 (by decide) (by decide) rfl (by decide) ?_
      refine r_iload_n dX12_goodAt_111 rfl rfl ?_
      refine r_iconst (v := 2) dX12_goodAt_112 (by decide) ?_
      refine r_idiv dX12_goodAt_113 (by decide) ?_
      refine r_iconst (v := 2) dX12_goodAt_114 (by decide) ?_
      refine r_aload_n dX12_goodAt_115 rfl rfl ?_
      refine r_getR (q := 55) dX12_goodAt_116 (ci := 12) (kf := 0) rfl (Nat.le_of_ble_eq_true rfl) (by decide) (by decide) rfl fl_X12_9 (Or.inl rfl) rfl ?_
      refine r_iconst (v := 2) dX12_goodAt_119 (by decide) ?_
      refine r_iald (j := 2) dX12_goodAt_120 rfl (Nat.le_of_ble_eq_true rfl) rfl (by decide) (by decide) ?_
      refine r_imul dX12_goodAt_121 ?_
      refine r_iadd dX12_goodAt_122 ?_
      refine r_iret dX12_goodAt_123 rfl (Nat.le_refl _) ?_
      refine dI_e ?_
      simp_all [goodR, Gs]
    by_cases e_32_5 : M 55 (16 + 11 * a + 0) = 5
    · refine r_tableAt (tgt := 124) 5 dX12_goodAt_32 e_32_5 (by decide) (by decide) rfl (by decide) ?_
      refine r_iload dX12_goodAt_124 rfl ?_
      refine r_if_eq (tgt := 135) dX12_goodAt_126 (by decide) (fun c => absurd c (by decide)) (fun _ => ?_)
      refine r_iload_n dX12_goodAt_129 rfl rfl ?_
      refine r_iconst (v := 5) dX12_goodAt_130 (by decide) ?_
      refine r_iadd dX12_goodAt_131 ?_
      refine r_goto (tgt := 136) dX12_goodAt_132 (by decide) ?_
      refine r_iret dX12_goodAt_136 rfl (Nat.le_refl _) ?_
      refine dI_e ?_
      simp_all [goodR, Gs]
    refine r_tableOut (tgt := 137) dX12_goodAt_32 (out_of2 (lo := 1) (n := 5) (by decide) (fun j hl hj => ?_)) (by decide) ?_
    · rcases (by omega : j = 1 ∨ j = 2 ∨ j = 3 ∨ j = 4 ∨ j = 5) with rfl | rfl | rfl | rfl | rfl
      · exact e_32_1
      · exact e_32_2
      · exact e_32_3
      · exact e_32_4
      · exact e_32_5
    refine r_iload_n dX12_goodAt_137 rfl rfl ?_
    refine r_iret dX12_goodAt_138 rfl (Nat.le_refl _) ?_
    refine dI_e ?_
    simp_all [goodR, Gs]
set_option maxRecDepth 20000 in
set_option maxHeartbeats 1000000 in
theorem s_X12_learnsOf (g : pG) {S : pS} (hS : sOk S) (a : Nat) (ha : a < 8) : MS g mX12_learnsOf 2 0 0 [.ref 54, .int (nI a)] (S) (dI (learnsR (S.2.2.2 55) a) S) := by
  obtain ⟨M, rfl⟩ := sOk_gs hS
  refine MS.of pn_X12 (Nat.le_of_ble_eq_true rfl) ?_
  refine r_aload_n dX12_learnsOf_0 rfl rfl ?_
  refine r_iload_n dX12_learnsOf_1 rfl rfl ?_
  refine r_iconst (v := 0) dX12_learnsOf_2 (by decide) ?_
  refine r_callV_dI (ci := 12) dX12_learnsOf_3 (s_X12_get g (by exact ⟨rfl, rfl, rfl⟩) (a) (0) (by omega) (by omega)) mf_X12_get mi_X12_get se_X12_X12_X12_get ml_X12_67 rfl rfl (Nat.le_of_ble_eq_true rfl) rfl (by decide) rfl (Nat.le_of_ble_eq_true rfl) ⟨(Nat.le_of_ble_eq_true rfl), (Nat.le_of_ble_eq_true rfl)⟩ ⟨(Nat.le_of_ble_eq_true rfl), (Nat.le_of_ble_eq_true rfl)⟩ ?_
  by_cases e_6_1 : M 55 (16 + 11 * a + 0) = 1
  · refine r_tableAt (tgt := 40) 1 dX12_learnsOf_6 e_6_1 (by decide) (by decide) rfl (by decide) ?_
    refine r_iconst (v := 2) dX12_learnsOf_40 (by decide) ?_
    refine r_aload_n dX12_learnsOf_41 rfl rfl ?_
    refine r_getR (q := 55) dX12_learnsOf_42 (ci := 12) (kf := 0) rfl (Nat.le_of_ble_eq_true rfl) (by decide) (by decide) rfl fl_X12_9 (Or.inl rfl) rfl ?_
    refine r_iconst (v := 1) dX12_learnsOf_45 (by decide) ?_
    refine r_iald (j := 1) dX12_learnsOf_46 rfl (Nat.le_of_ble_eq_true rfl) rfl (by decide) (by decide) ?_
    refine r_iadd dX12_learnsOf_47 ?_
    refine r_iret dX12_learnsOf_48 rfl (Nat.le_refl _) ?_
    refine dI_e ?_
    simp_all [learnsR, Gs]
  by_cases e_6_2 : M 55 (16 + 11 * a + 0) = 2
  · refine r_tableAt (tgt := 49) 2 dX12_learnsOf_6 e_6_2 (by decide) (by decide) rfl (by decide) ?_
    refine r_bipush (v := 6) dX12_learnsOf_49 (by decide) ?_
    refine r_iret dX12_learnsOf_51 rfl (Nat.le_refl _) ?_
    refine dI_e ?_
    simp_all [learnsR, Gs]
  by_cases e_6_3 : M 55 (16 + 11 * a + 0) = 3
  · refine r_tableAt (tgt := 52) 3 dX12_learnsOf_6 e_6_3 (by decide) (by decide) rfl (by decide) ?_
    refine r_iconst (v := 1) dX12_learnsOf_52 (by decide) ?_
    refine r_aload_n dX12_learnsOf_53 rfl rfl ?_
    refine r_getR (q := 55) dX12_learnsOf_54 (ci := 12) (kf := 0) rfl (Nat.le_of_ble_eq_true rfl) (by decide) (by decide) rfl fl_X12_9 (Or.inl rfl) rfl ?_
    refine r_iconst (v := 1) dX12_learnsOf_57 (by decide) ?_
    refine r_iald (j := 1) dX12_learnsOf_58 rfl (Nat.le_of_ble_eq_true rfl) rfl (by decide) (by decide) ?_
    refine r_iadd dX12_learnsOf_59 ?_
    refine r_iret dX12_learnsOf_60 rfl (Nat.le_refl _) ?_
    refine dI_e ?_
    simp_all [learnsR, Gs]
  by_cases e_6_4 : M 55 (16 + 11 * a + 0) = 4
  · refine r_tableAt (tgt := 61) 4 dX12_learnsOf_6 e_6_4 (by decide) (by decide) rfl (by decide) ?_
    refine r_iconst (v := 0) dX12_learnsOf_61 (by decide) ?_
    refine r_iret dX12_learnsOf_62 rfl (Nat.le_refl _) ?_
    refine dI_e ?_
    simp_all [learnsR, Gs]
  by_cases e_6_5 : M 55 (16 + 11 * a + 0) = 5
  · refine r_tableAt (tgt := 63) 5 dX12_learnsOf_6 e_6_5 (by decide) (by decide) rfl (by decide) ?_
    refine r_iconst (v := (-1)) dX12_learnsOf_63 (by decide) ?_
    refine r_iret dX12_learnsOf_64 rfl (Nat.le_refl _) ?_
    refine dI_e ?_
    simp_all [learnsR, Gs]
  refine r_tableOut (tgt := 65) dX12_learnsOf_6 (out_of2 (lo := 1) (n := 5) (by decide) (fun j hl hj => ?_)) (by decide) ?_
  · rcases (by omega : j = 1 ∨ j = 2 ∨ j = 3 ∨ j = 4 ∨ j = 5) with rfl | rfl | rfl | rfl | rfl
    · exact e_6_1
    · exact e_6_2
    · exact e_6_3
    · exact e_6_4
    · exact e_6_5
  refine r_iconst (v := 2) dX12_learnsOf_65 (by decide) ?_
  refine r_iret dX12_learnsOf_66 rfl (Nat.le_refl _) ?_
  refine dI_e ?_
  simp_all [learnsR, Gs]
set_option maxRecDepth 20000 in
set_option maxHeartbeats 1000000 in
theorem s_X12_forgetsOf (g : pG) {S : pS} (hS : sOk S) (a : Nat) (ha : a < 8) : MS g mX12_forgetsOf 2 0 0 [.ref 54, .int (nI a)] (S) (dI (forgetsR (S.2.2.2 55) a) S) := by
  obtain ⟨M, rfl⟩ := sOk_gs hS
  refine MS.of pn_X12 (Nat.le_of_ble_eq_true rfl) ?_
  refine r_aload_n dX12_forgetsOf_0 rfl rfl ?_
  refine r_iload_n dX12_forgetsOf_1 rfl rfl ?_
  refine r_iconst (v := 0) dX12_forgetsOf_2 (by decide) ?_
  refine r_callV_dI (ci := 12) dX12_forgetsOf_3 (s_X12_get g (by exact ⟨rfl, rfl, rfl⟩) (a) (0) (by omega) (by omega)) mf_X12_get mi_X12_get se_X12_X12_X12_get ml_X12_67 rfl rfl (Nat.le_of_ble_eq_true rfl) rfl (by decide) rfl (Nat.le_of_ble_eq_true rfl) ⟨(Nat.le_of_ble_eq_true rfl), (Nat.le_of_ble_eq_true rfl)⟩ ⟨(Nat.le_of_ble_eq_true rfl), (Nat.le_of_ble_eq_true rfl)⟩ ?_
  by_cases e_6_1 : M 55 (16 + 11 * a + 0) = 1
  · refine r_tableAt (tgt := 40) 1 dX12_forgetsOf_6 e_6_1 (by decide) (by decide) rfl (by decide) ?_
    refine r_iconst (v := 0) dX12_forgetsOf_40 (by decide) ?_
    refine r_iret dX12_forgetsOf_41 rfl (Nat.le_refl _) ?_
    refine dI_e ?_
    simp_all [forgetsR, Gs]
  by_cases e_6_2 : M 55 (16 + 11 * a + 0) = 2
  · refine r_tableAt (tgt := 42) 2 dX12_forgetsOf_6 e_6_2 (by decide) (by decide) rfl (by decide) ?_
    refine r_iconst (v := 2) dX12_forgetsOf_42 (by decide) ?_
    refine r_iret dX12_forgetsOf_43 rfl (Nat.le_refl _) ?_
    refine dI_e ?_
    simp_all [forgetsR, Gs]
  by_cases e_6_3 : M 55 (16 + 11 * a + 0) = 3
  · refine r_tableAt (tgt := 40) 3 dX12_forgetsOf_6 e_6_3 (by decide) (by decide) rfl (by decide) ?_
    refine r_iconst (v := 0) dX12_forgetsOf_40 (by decide) ?_
    refine r_iret dX12_forgetsOf_41 rfl (Nat.le_refl _) ?_
    refine dI_e ?_
    simp_all [forgetsR, Gs]
  by_cases e_6_4 : M 55 (16 + 11 * a + 0) = 4
  · refine r_tableAt (tgt := 44) 4 dX12_forgetsOf_6 e_6_4 (by decide) (by decide) rfl (by decide) ?_
    refine r_iconst (v := 2) dX12_forgetsOf_44 (by decide) ?_
    refine r_aload_n dX12_forgetsOf_45 rfl rfl ?_
    refine r_getR (q := 55) dX12_forgetsOf_46 (ci := 12) (kf := 0) rfl (Nat.le_of_ble_eq_true rfl) (by decide) (by decide) rfl fl_X12_9 (Or.inl rfl) rfl ?_
    refine r_iconst (v := 2) dX12_forgetsOf_49 (by decide) ?_
    refine r_iald (j := 2) dX12_forgetsOf_50 rfl (Nat.le_of_ble_eq_true rfl) rfl (by decide) (by decide) ?_
    refine r_isub dX12_forgetsOf_51 ?_
    refine r_iret dX12_forgetsOf_52 rfl (Nat.le_refl _) ?_
    refine dI_e ?_
    simp_all [forgetsR, Gs]
  by_cases e_6_5 : M 55 (16 + 11 * a + 0) = 5
  · refine r_tableAt (tgt := 42) 5 dX12_forgetsOf_6 e_6_5 (by decide) (by decide) rfl (by decide) ?_
    refine r_iconst (v := 2) dX12_forgetsOf_42 (by decide) ?_
    refine r_iret dX12_forgetsOf_43 rfl (Nat.le_refl _) ?_
    refine dI_e ?_
    simp_all [forgetsR, Gs]
  refine r_tableOut (tgt := 53) dX12_forgetsOf_6 (out_of2 (lo := 1) (n := 5) (by decide) (fun j hl hj => ?_)) (by decide) ?_
  · rcases (by omega : j = 1 ∨ j = 2 ∨ j = 3 ∨ j = 4 ∨ j = 5) with rfl | rfl | rfl | rfl | rfl
    · exact e_6_1
    · exact e_6_2
    · exact e_6_3
    · exact e_6_4
    · exact e_6_5
  refine r_iconst (v := 1) dX12_forgetsOf_53 (by decide) ?_
  refine r_iret dX12_forgetsOf_54 rfl (Nat.le_refl _) ?_
  refine dI_e ?_
  simp_all [forgetsR, Gs]
