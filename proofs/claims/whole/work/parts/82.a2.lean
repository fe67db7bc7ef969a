set_option maxRecDepth 20000 in
set_option maxHeartbeats 1000000 in
theorem s_s3_0 (g : pG) {M : Nat → Nat → Int32} {A : aT} (hA : A.2.1 ≤ 30) (ko : Nat) (o1 : Int32) (hn : M 48 1 = nI ko) (ho : M 48 2 = o1) (x : Int32) : MS g mX3_sings 2 0 0 [.ref 48, .int x] (Gs (acC M A)) (dI (sng0 ko 0 o1 x A).1 (Gs (acC M (sng0 ko 0 o1 x A).2))) := by
  refine MS.of pn_X3 (Nat.le_of_ble_eq_true rfl) ?_
  have J : PW g mX3_sings (eN g (Gs (acC M A)).1 2 0 0 (dI (sng0 ko 0 o1 x A).1 (Gs (acC M (sng0 ko 0 o1 x A).2)))) 36 [some (.ref 48), some (.int x)] [] (Gs (acC M (stA 11 A))) 0 0 := by
    refine r_aload_n dX3_sings_36 rfl rfl ?_
    refine r_iload_n dX3_sings_37 rfl rfl ?_
    refine r_callU_dI (ci := 3) dX3_sings_38 (s_bw_0 g (stA_le hA) ko o1 hn ho _) mf_X3_bows mi_X3_bows se_X3_X3_X3_bows ml_X3_29 sm_X3_X3_bows rfl rfl rfl (Nat.le_of_ble_eq_true rfl) rfl (by decide) (Nat.le_of_ble_eq_true rfl) ⟨(Nat.le_of_ble_eq_true rfl), (Nat.le_of_ble_eq_true rfl)⟩ ⟨(Nat.le_of_ble_eq_true rfl), (Nat.le_of_ble_eq_true rfl)⟩ ?_
    refine r_aload_n dX3_sings_41 rfl rfl ?_
    refine r_getI dX3_sings_42 (ci := 3) (kf := 2) rfl (Nat.le_of_ble_eq_true rfl) (by decide) (by decide) rfl fl_X3_17 (Or.inl rfl) ?_
    rw [show ∀ A : aT, (Gs (acC M A)).2.2.2 48 2 = o1 from fun _ => ho]
    refine r_iconst (v := 2) dX3_sings_45 (by decide) ?_
    refine r_imul dX3_sings_46 ?_
    refine r_iadd dX3_sings_47 ?_
    refine r_iret dX3_sings_48 rfl (Nat.le_refl _) ?_
    (try dsimp only [Gs_M])
    exact ⟨rfl, rfl⟩
  refine r_aload_n dX3_sings_0 rfl rfl ?_
  refine r_getR (q := 45) dX3_sings_1 (ci := 3) (kf := 0) rfl (Nat.le_of_ble_eq_true rfl) (by decide) (by decide) rfl fl_X3_7 (Or.inl rfl) rfl ?_
  refine r_getI dX3_sings_4 (ci := 9) (kf := 1) rfl (Nat.le_of_ble_eq_true rfl) (by decide) (by decide) rfl fl_X3_20 (Or.inl rfl) ?_
  rw [acC_c]
  refine r_bipush (v := 30) dX3_sings_7 (by decide) ?_
  refine r_icmp_geN (A.2.1) (30) (tgt := 36) dX3_sings_9 (by decide) (by omega) (by omega) (fun c_9 => ?_) (fun c_9 => ?_)
  · (try dsimp only [Gs_M] at c_9)
    rw [acC_n (b := 11) (by omega)]
    exact PW.subL J (by repeat' first | exact True.intro | refine And.intro rfl ?_)
  · (try dsimp only [Gs_M] at c_9)
    refine r_aload_n dX3_sings_12 rfl rfl ?_
    refine r_getR (q := 45) dX3_sings_13 (ci := 3) (kf := 0) rfl (Nat.le_of_ble_eq_true rfl) (by decide) (by decide) rfl fl_X3_7 (Or.inl rfl) rfl ?_
    refine r_getR (q := 46) dX3_sings_16 (ci := 9) (kf := 0) rfl (Nat.le_of_ble_eq_true rfl) (by decide) (by decide) rfl fl_X3_25 (Or.inl rfl) rfl ?_
    refine r_aload_n dX3_sings_19 rfl rfl ?_
    refine r_getR (q := 45) dX3_sings_20 (ci := 3) (kf := 0) rfl (Nat.le_of_ble_eq_true rfl) (by decide) (by decide) rfl fl_X3_7 (Or.inl rfl) rfl ?_
    refine r_dup dX3_sings_23 rfl ?_
    refine r_getI dX3_sings_24 (ci := 9) (kf := 1) rfl (Nat.le_of_ble_eq_true rfl) (by decide) (by decide) rfl fl_X3_20 (Or.inl rfl) ?_
    rw [acC_c]
    refine r_dup_x1 dX3_sings_27 rfl rfl ?_
    refine r_iconst (v := 1) dX3_sings_28 (by decide) ?_
    refine r_iaddN (A.2.1) (1) dX3_sings_29 ?_
    refine r_putI dX3_sings_30 (ci := 9) (kf := 1) rfl (Nat.le_of_ble_eq_true rfl) (by decide) (by decide) rfl fl_X3_20 (Or.inl rfl) rfl rfl rfl ?_
    refine r_bipush (v := 11) dX3_sings_33 (by decide) ?_
    refine r_iast (j := A.2.1) dX3_sings_35 rfl (Nat.le_of_ble_eq_true rfl) rfl (by omega) (by decide) ?_
    rw [acC_b (by omega)]
    exact PW.subL J (by repeat' first | exact True.intro | refine And.intro rfl ?_)
theorem s_sg_0 (g : pG) {M : Nat → Nat → Int32} {A : aT} (hA : A.2.1 ≤ 30) (ko : Nat) (o1 : Int32) (hn : M 48 1 = nI ko) (ho : M 48 2 = o1) (x : Int32) : MS g mX3_sings 2 0 0 [.ref 48, .int x] (Gs (acC M A)) (dI (sngK ko 0 o1 0 x A).1 (Gs (acC M (sngK ko 0 o1 0 x A).2))) := s_s3_0 g hA ko o1 hn ho x
set_option maxRecDepth 20000 in
set_option maxHeartbeats 1000000 in
theorem s_s3_1 (g : pG) {M : Nat → Nat → Int32} {A : aT} (hA : A.2.1 ≤ 30) (ko : Nat) (o1 : Int32) (hn : M 49 1 = nI ko) (ho : M 49 2 = o1) (x : Int32) : MS g mX3_sings 2 0 0 [.ref 49, .int x] (Gs (acC M A)) (dI (sng0 ko 1 o1 x A).1 (Gs (acC M (sng0 ko 1 o1 x A).2))) := by
  refine MS.of pn_X3 (Nat.le_of_ble_eq_true rfl) ?_
  have J : PW g mX3_sings (eN g (Gs (acC M A)).1 2 0 0 (dI (sng0 ko 1 o1 x A).1 (Gs (acC M (sng0 ko 1 o1 x A).2)))) 36 [some (.ref 49), some (.int x)] [] (Gs (acC M (stA 11 A))) 0 0 := by
    refine r_aload_n dX3_sings_36 rfl rfl ?_
    refine r_iload_n dX3_sings_37 rfl rfl ?_
    refine r_callU_dI (ci := 1) dX3_sings_38 (s_bw_1 g (stA_le hA) ko o1 hn ho _) mf_X3_bows mi_X3_bows se_X1_X3_X3_bows ml_X3_29 sm_X3_X3_bows rfl rfl rfl (Nat.le_of_ble_eq_true rfl) rfl (by decide) (Nat.le_of_ble_eq_true rfl) ⟨(Nat.le_of_ble_eq_true rfl), (Nat.le_of_ble_eq_true rfl)⟩ ⟨(Nat.le_of_ble_eq_true rfl), (Nat.le_of_ble_eq_true rfl)⟩ ?_
    refine r_aload_n dX3_sings_41 rfl rfl ?_
    refine r_getI dX3_sings_42 (ci := 1) (kf := 2) rfl (Nat.le_of_ble_eq_true rfl) (by decide) (by decide) rfl fl_X3_17 (Or.inl rfl) ?_
    rw [show ∀ A : aT, (Gs (acC M A)).2.2.2 49 2 = o1 from fun _ => ho]
    refine r_iconst (v := 2) dX3_sings_45 (by decide) ?_
    refine r_imul dX3_sings_46 ?_
    refine r_iadd dX3_sings_47 ?_
    refine r_iret dX3_sings_48 rfl (Nat.le_refl _) ?_
    (try dsimp only [Gs_M])
    exact ⟨rfl, rfl⟩
  refine r_aload_n dX3_sings_0 rfl rfl ?_
  refine r_getR (q := 45) dX3_sings_1 (ci := 1) (kf := 0) rfl (Nat.le_of_ble_eq_true rfl) (by decide) (by decide) rfl fl_X3_7 (Or.inl rfl) rfl ?_
  refine r_getI dX3_sings_4 (ci := 9) (kf := 1) rfl (Nat.le_of_ble_eq_true rfl) (by decide) (by decide) rfl fl_X3_20 (Or.inl rfl) ?_
  rw [acC_c]
  refine r_bipush (v := 30) dX3_sings_7 (by decide) ?_
  refine r_icmp_geN (A.2.1) (30) (tgt := 36) dX3_sings_9 (by decide) (by omega) (by omega) (fun c_9 => ?_) (fun c_9 => ?_)
  · (try dsimp only [Gs_M] at c_9)
    rw [acC_n (b := 11) (by omega)]
    exact PW.subL J (by repeat' first | exact True.intro | refine And.intro rfl ?_)
  · (try dsimp only [Gs_M] at c_9)
    refine r_aload_n dX3_sings_12 rfl rfl ?_
    refine r_getR (q := 45) dX3_sings_13 (ci := 1) (kf := 0) rfl (Nat.le_of_ble_eq_true rfl) (by decide) (by decide) rfl fl_X3_7 (Or.inl rfl) rfl ?_
    refine r_getR (q := 46) dX3_sings_16 (ci := 9) (kf := 0) rfl (Nat.le_of_ble_eq_true rfl) (by decide) (by decide) rfl fl_X3_25 (Or.inl rfl) rfl ?_
    refine r_aload_n dX3_sings_19 rfl rfl ?_
    refine r_getR (q := 45) dX3_sings_20 (ci := 1) (kf := 0) rfl (Nat.le_of_ble_eq_true rfl) (by decide) (by decide) rfl fl_X3_7 (Or.inl rfl) rfl ?_
    refine r_dup dX3_sings_23 rfl ?_
    refine r_getI dX3_sings_24 (ci := 9) (kf := 1) rfl (Nat.le_of_ble_eq_true rfl) (by decide) (by decide) rfl fl_X3_20 (Or.inl rfl) ?_
    rw [acC_c]
    refine r_dup_x1 dX3_sings_27 rfl rfl ?_
    refine r_iconst (v := 1) dX3_sings_28 (by decide) ?_
    refine r_iaddN (A.2.1) (1) dX3_sings_29 ?_
    refine r_putI dX3_sings_30 (ci := 9) (kf := 1) rfl (Nat.le_of_ble_eq_true rfl) (by decide) (by decide) rfl fl_X3_20 (Or.inl rfl) rfl rfl rfl ?_
    refine r_bipush (v := 11) dX3_sings_33 (by decide) ?_
    refine r_iast (j := A.2.1) dX3_sings_35 rfl (Nat.le_of_ble_eq_true rfl) rfl (by omega) (by decide) ?_
    rw [acC_b (by omega)]
    exact PW.subL J (by repeat' first | exact True.intro | refine And.intro rfl ?_)
set_option maxRecDepth 20000 in
set_option maxHeartbeats 1000000 in
theorem s_sg_1 (g : pG) {M : Nat → Nat → Int32} {A : aT} (hA : A.2.1 ≤ 30) (ko : Nat) (o1 : Int32) (hn : M 49 1 = nI ko) (ho : M 49 2 = o1) (x : Int32) : MS g mX1_sings 3 0 0 [.ref 49, .int x] (Gs (acC M A)) (dI (sngK ko 1 o1 1 x A).1 (Gs (acC M (sngK ko 1 o1 1 x A).2))) := by
  refine MS.of pn_X1 (Nat.le_of_ble_eq_true rfl) ?_
  have J : PW g mX1_sings (eN g (Gs (acC M A)).1 3 0 0 (dI (sngK ko 1 o1 1 x A).1 (Gs (acC M (sngK ko 1 o1 1 x A).2)))) 36 [some (.ref 49), some (.int x)] [] (Gs (acC M (stA 20 A))) 0 0 := by
    refine r_aload_n dX1_sings_36 rfl rfl ?_
    refine r_iload_n dX1_sings_37 rfl rfl ?_
    refine r_callSU_dI (ci := 1) dX1_sings_38 (s_s3_1 g (stA_le hA) ko o1 hn ho _) mf_X3_sings mi_X3_sings ml_X1_23 sm_X3_X3_sings su_X1_X3 (by decide) rfl rfl (Nat.le_of_ble_eq_true rfl) rfl (by decide) (Nat.le_of_ble_eq_true rfl) ⟨(Nat.le_of_ble_eq_true rfl), (Nat.le_of_ble_eq_true rfl)⟩ ⟨(Nat.le_of_ble_eq_true rfl), (Nat.le_of_ble_eq_true rfl)⟩ ?_
    refine r_iconst (v := 3) dX1_sings_41 (by decide) ?_
    refine r_imul dX1_sings_42 ?_
    refine r_iret dX1_sings_43 rfl (Nat.le_refl _) ?_
    (try dsimp only [Gs_M])
    exact ⟨rfl, rfl⟩
  refine r_aload_n dX1_sings_0 rfl rfl ?_
  refine r_getR (q := 45) dX1_sings_1 (ci := 1) (kf := 0) rfl (Nat.le_of_ble_eq_true rfl) (by decide) (by decide) rfl fl_X1_7 (Or.inr sf_X1_log) rfl ?_
  refine r_getI dX1_sings_4 (ci := 9) (kf := 1) rfl (Nat.le_of_ble_eq_true rfl) (by decide) (by decide) rfl fl_X1_13 (Or.inl rfl) ?_
  rw [acC_c]
  refine r_bipush (v := 30) dX1_sings_7 (by decide) ?_
  refine r_icmp_geN (A.2.1) (30) (tgt := 36) dX1_sings_9 (by decide) (by omega) (by omega) (fun c_9 => ?_) (fun c_9 => ?_)
  · (try dsimp only [Gs_M] at c_9)
    rw [acC_n (b := 20) (by omega)]
    exact PW.subL J (by repeat' first | exact True.intro | refine And.intro rfl ?_)
  · (try dsimp only [Gs_M] at c_9)
    refine r_aload_n dX1_sings_12 rfl rfl ?_
    refine r_getR (q := 45) dX1_sings_13 (ci := 1) (kf := 0) rfl (Nat.le_of_ble_eq_true rfl) (by decide) (by decide) rfl fl_X1_7 (Or.inr sf_X1_log) rfl ?_
    refine r_getR (q := 46) dX1_sings_16 (ci := 9) (kf := 0) rfl (Nat.le_of_ble_eq_true rfl) (by decide) (by decide) rfl fl_X1_19 (Or.inl rfl) rfl ?_
    refine r_aload_n dX1_sings_19 rfl rfl ?_
    refine r_getR (q := 45) dX1_sings_20 (ci := 1) (kf := 0) rfl (Nat.le_of_ble_eq_true rfl) (by decide) (by decide) rfl fl_X1_7 (Or.inr sf_X1_log) rfl ?_
    refine r_dup dX1_sings_23 rfl ?_
    refine r_getI dX1_sings_24 (ci := 9) (kf := 1) rfl (Nat.le_of_ble_eq_true rfl) (by decide) (by decide) rfl fl_X1_13 (Or.inl rfl) ?_
    rw [acC_c]
    refine r_dup_x1 dX1_sings_27 rfl rfl ?_
    refine r_iconst (v := 1) dX1_sings_28 (by decide) ?_
    refine r_iaddN (A.2.1) (1) dX1_sings_29 ?_
    refine r_putI dX1_sings_30 (ci := 9) (kf := 1) rfl (Nat.le_of_ble_eq_true rfl) (by decide) (by decide) rfl fl_X1_13 (Or.inl rfl) rfl rfl rfl ?_
    refine r_bipush (v := 20) dX1_sings_33 (by decide) ?_
    refine r_iast (j := A.2.1) dX1_sings_35 rfl (Nat.le_of_ble_eq_true rfl) rfl (by omega) (by decide) ?_
    rw [acC_b (by omega)]
    exact PW.subL J (by repeat' first | exact True.intro | refine And.intro rfl ?_)
set_option maxRecDepth 20000 in
set_option maxHeartbeats 1000000 in
theorem s_s3_2 (g : pG) {M : Nat → Nat → Int32} {A : aT} (hA : A.2.1 ≤ 30) (ko : Nat) (o1 : Int32) (hn : M 50 1 = nI ko) (ho : M 50 2 = o1) (x : Int32) : MS g mX3_sings 3 0 0 [.ref 50, .int x] (Gs (acC M A)) (dI (sng0 ko 2 o1 x A).1 (Gs (acC M (sng0 ko 2 o1 x A).2))) := by
  refine MS.of pn_X3 (Nat.le_of_ble_eq_true rfl) ?_
  have J : PW g mX3_sings (eN g (Gs (acC M A)).1 3 0 0 (dI (sng0 ko 2 o1 x A).1 (Gs (acC M (sng0 ko 2 o1 x A).2)))) 36 [some (.ref 50), some (.int x)] [] (Gs (acC M (stA 11 A))) 0 0 := by
    refine r_aload_n dX3_sings_36 rfl rfl ?_
    refine r_iload_n dX3_sings_37 rfl rfl ?_
    refine r_callO_dI (ci := 2) dX3_sings_38 (s_bw_2 g (stA_le hA) ko o1 hn ho _) mf_X2_bows mi_X2_bows se_X2_X3_X2_bows ml_X3_29 sm_X3_X3_bows mi_X3_bows cd_X3_bows ⟨by decide, by decide⟩ rfl rfl rfl (Nat.le_of_ble_eq_true rfl) rfl (by decide) (Nat.le_of_ble_eq_true rfl) ⟨(Nat.le_of_ble_eq_true rfl), (Nat.le_of_ble_eq_true rfl)⟩ ⟨(Nat.le_of_ble_eq_true rfl), (Nat.le_of_ble_eq_true rfl)⟩ ?_
    refine r_aload_n dX3_sings_41 rfl rfl ?_
    refine r_getI dX3_sings_42 (ci := 2) (kf := 2) rfl (Nat.le_of_ble_eq_true rfl) (by decide) (by decide) rfl fl_X3_17 (Or.inl rfl) ?_
    rw [show ∀ A : aT, (Gs (acC M A)).2.2.2 50 2 = o1 from fun _ => ho]
    refine r_iconst (v := 2) dX3_sings_45 (by decide) ?_
    refine r_imul dX3_sings_46 ?_
    refine r_iadd dX3_sings_47 ?_
    refine r_iret dX3_sings_48 rfl (Nat.le_refl _) ?_
    (try dsimp only [Gs_M])
    exact ⟨rfl, rfl⟩
  refine r_aload_n dX3_sings_0 rfl rfl ?_
  refine r_getR (q := 45) dX3_sings_1 (ci := 2) (kf := 0) rfl (Nat.le_of_ble_eq_true rfl) (by decide) (by decide) rfl fl_X3_7 (Or.inl rfl) rfl ?_
  refine r_getI dX3_sings_4 (ci := 9) (kf := 1) rfl (Nat.le_of_ble_eq_true rfl) (by decide) (by decide) rfl fl_X3_20 (Or.inl rfl) ?_
  rw [acC_c]
  refine r_bipush (v := 30) dX3_sings_7 (by decide) ?_
  refine r_icmp_geN (A.2.1) (30) (tgt := 36) dX3_sings_9 (by decide) (by omega) (by omega) (fun c_9 => ?_) (fun c_9 => ?_)
  · (try dsimp only [Gs_M] at c_9)
    rw [acC_n (b := 11) (by omega)]
    exact PW.subL J (by repeat' first | exact True.intro | refine And.intro rfl ?_)
  · (try dsimp only [Gs_M] at c_9)
    refine r_aload_n dX3_sings_12 rfl rfl ?_
    refine r_getR (q := 45) dX3_sings_13 (ci := 2) (kf := 0) rfl (Nat.le_of_ble_eq_true rfl) (by decide) (by decide) rfl fl_X3_7 (Or.inl rfl) rfl ?_
    refine r_getR (q := 46) dX3_sings_16 (ci := 9) (kf := 0) rfl (Nat.le_of_ble_eq_true rfl) (by decide) (by decide) rfl fl_X3_25 (Or.inl rfl) rfl ?_
    refine r_aload_n dX3_sings_19 rfl rfl ?_
    refine r_getR (q := 45) dX3_sings_20 (ci := 2) (kf := 0) rfl (Nat.le_of_ble_eq_true rfl) (by decide) (by decide) rfl fl_X3_7 (Or.inl rfl) rfl ?_
    refine r_dup dX3_sings_23 rfl ?_
    refine r_getI dX3_sings_24 (ci := 9) (kf := 1) rfl (Nat.le_of_ble_eq_true rfl) (by decide) (by decide) rfl fl_X3_20 (Or.inl rfl) ?_
    rw [acC_c]
    refine r_dup_x1 dX3_sings_27 rfl rfl ?_
    refine r_iconst (v := 1) dX3_sings_28 (by decide) ?_
    refine r_iaddN (A.2.1) (1) dX3_sings_29 ?_
    refine r_putI dX3_sings_30 (ci := 9) (kf := 1) rfl (Nat.le_of_ble_eq_true rfl) (by decide) (by decide) rfl fl_X3_20 (Or.inl rfl) rfl rfl rfl ?_
    refine r_bipush (v := 11) dX3_sings_33 (by decide) ?_
    refine r_iast (j := A.2.1) dX3_sings_35 rfl (Nat.le_of_ble_eq_true rfl) rfl (by omega) (by decide) ?_
    rw [acC_b (by omega)]
    exact PW.subL J (by repeat' first | exact True.intro | refine And.intro rfl ?_)
theorem s_sg_2 (g : pG) {M : Nat → Nat → Int32} {A : aT} (hA : A.2.1 ≤ 30) (ko : Nat) (o1 : Int32) (hn : M 50 1 = nI ko) (ho : M 50 2 = o1) (x : Int32) : MS g mX3_sings 3 0 0 [.ref 50, .int x] (Gs (acC M A)) (dI (sngK ko 2 o1 2 x A).1 (Gs (acC M (sngK ko 2 o1 2 x A).2))) := s_s3_2 g hA ko o1 hn ho x
set_option maxRecDepth 20000 in
set_option maxHeartbeats 1000000 in
theorem s_s3_3 (g : pG) {M : Nat → Nat → Int32} {A : aT} (hA : A.2.1 ≤ 30) (ko : Nat) (o1 : Int32) (hn : M 51 1 = nI ko) (ho : M 51 2 = o1) (x : Int32) : MS g mX3_sings 3 0 0 [.ref 51, .int x] (Gs (acC M A)) (dI (sng0 ko 3 o1 x A).1 (Gs (acC M (sng0 ko 3 o1 x A).2))) := by
  refine MS.of pn_X3 (Nat.le_of_ble_eq_true rfl) ?_
  have J : PW g mX3_sings (eN g (Gs (acC M A)).1 3 0 0 (dI (sng0 ko 3 o1 x A).1 (Gs (acC M (sng0 ko 3 o1 x A).2)))) 36 [some (.ref 51), some (.int x)] [] (Gs (acC M (stA 11 A))) 0 0 := by
    refine r_aload_n dX3_sings_36 rfl rfl ?_
    refine r_iload_n dX3_sings_37 rfl rfl ?_
    refine r_callO_dI (ci := 5) dX3_sings_38 (s_bw_3 g (stA_le hA) ko o1 hn ho _) mf_X5_bows mi_X5_bows se_X5_X3_X5_bows ml_X3_29 sm_X3_X3_bows mi_X3_bows cd_X3_bows ⟨by decide, by decide⟩ rfl rfl rfl (Nat.le_of_ble_eq_true rfl) rfl (by decide) (Nat.le_of_ble_eq_true rfl) ⟨(Nat.le_of_ble_eq_true rfl), (Nat.le_of_ble_eq_true rfl)⟩ ⟨(Nat.le_of_ble_eq_true rfl), (Nat.le_of_ble_eq_true rfl)⟩ ?_
    refine r_aload_n dX3_sings_41 rfl rfl ?_
    refine r_getI dX3_sings_42 (ci := 5) (kf := 2) rfl (Nat.le_of_ble_eq_true rfl) (by decide) (by decide) rfl fl_X3_17 (Or.inl rfl) ?_
    rw [show ∀ A : aT, (Gs (acC M A)).2.2.2 51 2 = o1 from fun _ => ho]
    refine r_iconst (v := 2) dX3_sings_45 (by decide) ?_
    refine r_imul dX3_sings_46 ?_
    refine r_iadd dX3_sings_47 ?_
    refine r_iret dX3_sings_48 rfl (Nat.le_refl _) ?_
    (try dsimp only [Gs_M])
    exact ⟨rfl, rfl⟩
  refine r_aload_n dX3_sings_0 rfl rfl ?_
  refine r_getR (q := 45) dX3_sings_1 (ci := 5) (kf := 0) rfl (Nat.le_of_ble_eq_true rfl) (by decide) (by decide) rfl fl_X3_7 (Or.inl rfl) rfl ?_
  refine r_getI dX3_sings_4 (ci := 9) (kf := 1) rfl (Nat.le_of_ble_eq_true rfl) (by decide) (by decide) rfl fl_X3_20 (Or.inl rfl) ?_
  rw [acC_c]
  refine r_bipush (v := 30) dX3_sings_7 (by decide) ?_
  refine r_icmp_geN (A.2.1) (30) (tgt := 36) dX3_sings_9 (by decide) (by omega) (by omega) (fun c_9 => ?_) (fun c_9 => ?_)
  · (try dsimp only [Gs_M] at c_9)
    rw [acC_n (b := 11) (by omega)]
    exact PW.subL J (by repeat' first | exact True.intro | refine And.intro rfl ?_)
  · (try dsimp only [Gs_M] at c_9)
    refine r_aload_n dX3_sings_12 rfl rfl ?_
    refine r_getR (q := 45) dX3_sings_13 (ci := 5) (kf := 0) rfl (Nat.le_of_ble_eq_true rfl) (by decide) (by decide) rfl fl_X3_7 (Or.inl rfl) rfl ?_
    refine r_getR (q := 46) dX3_sings_16 (ci := 9) (kf := 0) rfl (Nat.le_of_ble_eq_true rfl) (by decide) (by decide) rfl fl_X3_25 (Or.inl rfl) rfl ?_
    refine r_aload_n dX3_sings_19 rfl rfl ?_
    refine r_getR (q := 45) dX3_sings_20 (ci := 5) (kf := 0) rfl (Nat.le_of_ble_eq_true rfl) (by decide) (by decide) rfl fl_X3_7 (Or.inl rfl) rfl ?_
    refine r_dup dX3_sings_23 rfl ?_
    refine r_getI dX3_sings_24 (ci := 9) (kf := 1) rfl (Nat.le_of_ble_eq_true rfl) (by decide) (by decide) rfl fl_X3_20 (Or.inl rfl) ?_
    rw [acC_c]
    refine r_dup_x1 dX3_sings_27 rfl rfl ?_
    refine r_iconst (v := 1) dX3_sings_28 (by decide) ?_
    refine r_iaddN (A.2.1) (1) dX3_sings_29 ?_
    refine r_putI dX3_sings_30 (ci := 9) (kf := 1) rfl (Nat.le_of_ble_eq_true rfl) (by decide) (by decide) rfl fl_X3_20 (Or.inl rfl) rfl rfl rfl ?_
    refine r_bipush (v := 11) dX3_sings_33 (by decide) ?_
    refine r_iast (j := A.2.1) dX3_sings_35 rfl (Nat.le_of_ble_eq_true rfl) rfl (by omega) (by decide) ?_
    rw [acC_b (by omega)]
    exact PW.subL J (by repeat' first | exact True.intro | refine And.intro rfl ?_)
set_option maxRecDepth 20000 in
set_option maxHeartbeats 1000000 in
theorem s_sg_3 (g : pG) {M : Nat → Nat → Int32} {A : aT} (hA : A.2.1 ≤ 30) (ko : Nat) (o1 : Int32) (hn : M 51 1 = nI ko) (ho : M 51 2 = o1) (x : Int32) : MS g mX1_sings 4 0 0 [.ref 51, .int x] (Gs (acC M A)) (dI (sngK ko 3 o1 3 x A).1 (Gs (acC M (sngK ko 3 o1 3 x A).2))) := by
  refine MS.of pn_X1 (Nat.le_of_ble_eq_true rfl) ?_
  have J : PW g mX1_sings (eN g (Gs (acC M A)).1 4 0 0 (dI (sngK ko 3 o1 3 x A).1 (Gs (acC M (sngK ko 3 o1 3 x A).2)))) 36 [some (.ref 51), some (.int x)] [] (Gs (acC M (stA 20 A))) 0 0 := by
    refine r_aload_n dX1_sings_36 rfl rfl ?_
    refine r_iload_n dX1_sings_37 rfl rfl ?_
    refine r_callSU_dI (ci := 5) dX1_sings_38 (s_s3_3 g (stA_le hA) ko o1 hn ho _) mf_X3_sings mi_X3_sings ml_X1_23 sm_X3_X3_sings su_X1_X3 (by decide) rfl rfl (Nat.le_of_ble_eq_true rfl) rfl (by decide) (Nat.le_of_ble_eq_true rfl) ⟨(Nat.le_of_ble_eq_true rfl), (Nat.le_of_ble_eq_true rfl)⟩ ⟨(Nat.le_of_ble_eq_true rfl), (Nat.le_of_ble_eq_true rfl)⟩ ?_
    refine r_iconst (v := 3) dX1_sings_41 (by decide) ?_
    refine r_imul dX1_sings_42 ?_
    refine r_iret dX1_sings_43 rfl (Nat.le_refl _) ?_
    (try dsimp only [Gs_M])
    exact ⟨rfl, rfl⟩
  refine r_aload_n dX1_sings_0 rfl rfl ?_
  refine r_getR (q := 45) dX1_sings_1 (ci := 5) (kf := 0) rfl (Nat.le_of_ble_eq_true rfl) (by decide) (by decide) rfl fl_X1_7 (Or.inr sf_X1_log) rfl ?_
  refine r_getI dX1_sings_4 (ci := 9) (kf := 1) rfl (Nat.le_of_ble_eq_true rfl) (by decide) (by decide) rfl fl_X1_13 (Or.inl rfl) ?_
  rw [acC_c]
  refine r_bipush (v := 30) dX1_sings_7 (by decide) ?_
  refine r_icmp_geN (A.2.1) (30) (tgt := 36) dX1_sings_9 (by decide) (by omega) (by omega) (fun c_9 => ?_) (fun c_9 => ?_)
  · (try dsimp only [Gs_M] at c_9)
    rw [acC_n (b := 20) (by omega)]
    exact PW.subL J (by repeat' first | exact True.intro | refine And.intro rfl ?_)
  · (try dsimp only [Gs_M] at c_9)
    refine r_aload_n dX1_sings_12 rfl rfl ?_
    refine r_getR (q := 45) dX1_sings_13 (ci := 5) (kf := 0) rfl (Nat.le_of_ble_eq_true rfl) (by decide) (by decide) rfl fl_X1_7 (Or.inr sf_X1_log) rfl ?_
    refine r_getR (q := 46) dX1_sings_16 (ci := 9) (kf := 0) rfl (Nat.le_of_ble_eq_true rfl) (by decide) (by decide) rfl fl_X1_19 (Or.inl rfl) rfl ?_
    refine r_aload_n dX1_sings_19 rfl rfl ?_
    refine r_getR (q := 45) dX1_sings_20 (ci := 5) (kf := 0) rfl (Nat.le_of_ble_eq_true rfl) (by decide) (by decide) rfl fl_X1_7 (Or.inr sf_X1_log) rfl ?_
    refine r_dup dX1_sings_23 rfl ?_
    refine r_getI dX1_sings_24 (ci := 9) (kf := 1) rfl (Nat.le_of_ble_eq_true rfl) (by decide) (by decide) rfl fl_X1_13 (Or.inl rfl) ?_
    rw [acC_c]
    refine r_dup_x1 dX1_sings_27 rfl rfl ?_
    refine r_iconst (v := 1) dX1_sings_28 (by decide) ?_
    refine r_iaddN (A.2.1) (1) dX1_sings_29 ?_
    refine r_putI dX1_sings_30 (ci := 9) (kf := 1) rfl (Nat.le_of_ble_eq_true rfl) (by decide) (by decide) rfl fl_X1_13 (Or.inl rfl) rfl rfl rfl ?_
    refine r_bipush (v := 20) dX1_sings_33 (by decide) ?_
    refine r_iast (j := A.2.1) dX1_sings_35 rfl (Nat.le_of_ble_eq_true rfl) rfl (by omega) (by decide) ?_
    rw [acC_b (by omega)]
    exact PW.subL J (by repeat' first | exact True.intro | refine And.intro rfl ?_)
set_option maxRecDepth 20000 in
set_option maxHeartbeats 1000000 in
theorem s_s3_4 (g : pG) {M : Nat → Nat → Int32} {A : aT} (hA : A.2.1 ≤ 30) (ko : Nat) (o1 : Int32) (hn : M 52 1 = nI ko) (ho : M 52 2 = o1) (x : Int32) : MS g mX3_sings 4 0 0 [.ref 52, .int x] (Gs (acC M A)) (dI (sng0 ko 4 o1 x A).1 (Gs (acC M (sng0 ko 4 o1 x A).2))) := by
  refine MS.of pn_X3 (Nat.le_of_ble_eq_true rfl) ?_
  have J : PW g mX3_sings (eN g (Gs (acC M A)).1 4 0 0 (dI (sng0 ko 4 o1 x A).1 (Gs (acC M (sng0 ko 4 o1 x A).2)))) 36 [some (.ref 52), some (.int x)] [] (Gs (acC M (stA 11 A))) 0 0 := by
    refine r_aload_n dX3_sings_36 rfl rfl ?_
    refine r_iload_n dX3_sings_37 rfl rfl ?_
    refine r_callO_dI (ci := 4) dX3_sings_38 (s_bw_4 g (stA_le hA) ko o1 hn ho _) mf_X4_bows mi_X4_bows se_X4_X3_X4_bows ml_X3_29 sm_X3_X3_bows mi_X3_bows cd_X3_bows ⟨by decide, by decide⟩ rfl rfl rfl (Nat.le_of_ble_eq_true rfl) rfl (by decide) (Nat.le_of_ble_eq_true rfl) ⟨(Nat.le_of_ble_eq_true rfl), (Nat.le_of_ble_eq_true rfl)⟩ ⟨(Nat.le_of_ble_eq_true rfl), (Nat.le_of_ble_eq_true rfl)⟩ ?_
    refine r_aload_n dX3_sings_41 rfl rfl ?_
    refine r_getI dX3_sings_42 (ci := 4) (kf := 2) rfl (Nat.le_of_ble_eq_true rfl) (by decide) (by decide) rfl fl_X3_17 (Or.inl rfl) ?_
    rw [show ∀ A : aT, (Gs (acC M A)).2.2.2 52 2 = o1 from fun _ => ho]
    refine r_iconst (v := 2) dX3_sings_45 (by decide) ?_
    refine r_imul dX3_sings_46 ?_
    refine r_iadd dX3_sings_47 ?_
    refine r_iret dX3_sings_48 rfl (Nat.le_refl _) ?_
    (try dsimp only [Gs_M])
    exact ⟨rfl, rfl⟩
  refine r_aload_n dX3_sings_0 rfl rfl ?_
  refine r_getR (q := 45) dX3_sings_1 (ci := 4) (kf := 0) rfl (Nat.le_of_ble_eq_true rfl) (by decide) (by decide) rfl fl_X3_7 (Or.inl rfl) rfl ?_
  refine r_getI dX3_sings_4 (ci := 9) (kf := 1) rfl (Nat.le_of_ble_eq_true rfl) (by decide) (by decide) rfl fl_X3_20 (Or.inl rfl) ?_
  rw [acC_c]
  refine r_bipush (v := 30) dX3_sings_7 (by decide) ?_
  refine r_icmp_geN (A.2.1) (30) (tgt := 36) dX3_sings_9 (by decide) (by omega) (by omega) (fun c_9 => ?_) (fun c_9 => ?_)
  · (try dsimp only [Gs_M] at c_9)
    rw [acC_n (b := 11) (by omega)]
    exact PW.subL J (by repeat' first | exact True.intro | refine And.intro rfl ?_)
  · (try dsimp only [Gs_M] at c_9)
    refine r_aload_n dX3_sings_12 rfl rfl ?_
    refine r_getR (q := 45) dX3_sings_13 (ci := 4) (kf := 0) rfl (Nat.le_of_ble_eq_true rfl) (by decide) (by decide) rfl fl_X3_7 (Or.inl rfl) rfl ?_
    refine r_getR (q := 46) dX3_sings_16 (ci := 9) (kf := 0) rfl (Nat.le_of_ble_eq_true rfl) (by decide) (by decide) rfl fl_X3_25 (Or.inl rfl) rfl ?_
    refine r_aload_n dX3_sings_19 rfl rfl ?_
    refine r_getR (q := 45) dX3_sings_20 (ci := 4) (kf := 0) rfl (Nat.le_of_ble_eq_true rfl) (by decide) (by decide) rfl fl_X3_7 (Or.inl rfl) rfl ?_
    refine r_dup dX3_sings_23 rfl ?_
    refine r_getI dX3_sings_24 (ci := 9) (kf := 1) rfl (Nat.le_of_ble_eq_true rfl) (by decide) (by decide) rfl fl_X3_20 (Or.inl rfl) ?_
    rw [acC_c]
    refine r_dup_x1 dX3_sings_27 rfl rfl ?_
    refine r_iconst (v := 1) dX3_sings_28 (by decide) ?_
    refine r_iaddN (A.2.1) (1) dX3_sings_29 ?_
    refine r_putI dX3_sings_30 (ci := 9) (kf := 1) rfl (Nat.le_of_ble_eq_true rfl) (by decide) (by decide) rfl fl_X3_20 (Or.inl rfl) rfl rfl rfl ?_
    refine r_bipush (v := 11) dX3_sings_33 (by decide) ?_
    refine r_iast (j := A.2.1) dX3_sings_35 rfl (Nat.le_of_ble_eq_true rfl) rfl (by omega) (by decide) ?_
    rw [acC_b (by omega)]
    exact PW.subL J (by repeat' first | exact True.intro | refine And.intro rfl ?_)
set_option maxRecDepth 20000 in
set_option maxHeartbeats 1000000 in
theorem s_sg_4 (g : pG) {M : Nat → Nat → Int32} {A : aT} (hA : A.2.1 ≤ 30) (ko : Nat) (o1 : Int32) (hn : M 52 1 = nI ko) (ho : M 52 2 = o1) (x : Int32) : MS g mX4_sings 5 0 0 [.ref 52, .int x] (Gs (acC M A)) (dI (sngK ko 4 o1 4 x A).1 (Gs (acC M (sngK ko 4 o1 4 x A).2))) := by
  refine MS.of pn_X4 (Nat.le_of_ble_eq_true rfl) ?_
  have J : PW g mX4_sings (eN g (Gs (acC M A)).1 5 0 0 (dI (sngK ko 4 o1 4 x A).1 (Gs (acC M (sngK ko 4 o1 4 x A).2)))) 36 [some (.ref 52), some (.int x)] [] (Gs (acC M (stA 41 A))) 0 0 := by
    refine r_aload_n dX4_sings_36 rfl rfl ?_
    refine r_iload_n dX4_sings_37 rfl rfl ?_
    refine r_callSUo_dI (ci := 4) dX4_sings_38 (s_s3_4 g (stA_le hA) ko o1 hn ho _) mf_X3_sings mi_X3_sings ml_X4_27 sm_X2_X3_sings su_X4_X2 su_X2_X3 rfl rfl (by decide) rfl rfl (Nat.le_of_ble_eq_true rfl) rfl (by decide) (Nat.le_of_ble_eq_true rfl) ⟨(Nat.le_of_ble_eq_true rfl), (Nat.le_of_ble_eq_true rfl)⟩ ⟨(Nat.le_of_ble_eq_true rfl), (Nat.le_of_ble_eq_true rfl)⟩ ?_
    refine r_aload_n dX4_sings_41 rfl rfl ?_
    refine r_aload_n dX4_sings_42 rfl rfl ?_
    refine r_getI dX4_sings_43 (ci := 4) (kf := 2) rfl (Nat.le_of_ble_eq_true rfl) (by decide) (by decide) rfl fl_X4_30 (Or.inr sf_X4_a) ?_
    rw [show ∀ A : aT, (Gs (acC M A)).2.2.2 52 2 = o1 from fun _ => ho]
    refine r_callV_dI (ci := 4) dX4_sings_46 (s_bw_4 g (sng0_le (stA_le hA)) ko o1 hn ho _) mf_X4_bows mi_X4_bows se_X4_X4_X4_bows ml_X4_33 rfl rfl (Nat.le_of_ble_eq_true rfl) rfl (by decide) rfl (Nat.le_of_ble_eq_true rfl) ⟨(Nat.le_of_ble_eq_true rfl), (Nat.le_of_ble_eq_true rfl)⟩ ⟨(Nat.le_of_ble_eq_true rfl), (Nat.le_of_ble_eq_true rfl)⟩ ?_
    refine r_ixor dX4_sings_49 ?_
    refine r_iret dX4_sings_50 rfl (Nat.le_refl _) ?_
    (try dsimp only [Gs_M])
    exact ⟨rfl, rfl⟩
  refine r_aload_n dX4_sings_0 rfl rfl ?_
  refine r_getR (q := 45) dX4_sings_1 (ci := 4) (kf := 0) rfl (Nat.le_of_ble_eq_true rfl) (by decide) (by decide) rfl fl_X4_7 (Or.inr sf_X4_log) rfl ?_
  refine r_getI dX4_sings_4 (ci := 9) (kf := 1) rfl (Nat.le_of_ble_eq_true rfl) (by decide) (by decide) rfl fl_X4_13 (Or.inl rfl) ?_
  rw [acC_c]
  refine r_bipush (v := 30) dX4_sings_7 (by decide) ?_
  refine r_icmp_geN (A.2.1) (30) (tgt := 36) dX4_sings_9 (by decide) (by omega) (by omega) (fun c_9 => ?_) (fun c_9 => ?_)
  · (try dsimp only [Gs_M] at c_9)
    rw [acC_n (b := 41) (by omega)]
    exact PW.subL J (by repeat' first | exact True.intro | refine And.intro rfl ?_)
  · (try dsimp only [Gs_M] at c_9)
    refine r_aload_n dX4_sings_12 rfl rfl ?_
    refine r_getR (q := 45) dX4_sings_13 (ci := 4) (kf := 0) rfl (Nat.le_of_ble_eq_true rfl) (by decide) (by decide) rfl fl_X4_7 (Or.inr sf_X4_log) rfl ?_
    refine r_getR (q := 46) dX4_sings_16 (ci := 9) (kf := 0) rfl (Nat.le_of_ble_eq_true rfl) (by decide) (by decide) rfl fl_X4_19 (Or.inl rfl) rfl ?_
    refine r_aload_n dX4_sings_19 rfl rfl ?_
    refine r_getR (q := 45) dX4_sings_20 (ci := 4) (kf := 0) rfl (Nat.le_of_ble_eq_true rfl) (by decide) (by decide) rfl fl_X4_7 (Or.inr sf_X4_log) rfl ?_
    refine r_dup dX4_sings_23 rfl ?_
    refine r_getI dX4_sings_24 (ci := 9) (kf := 1) rfl (Nat.le_of_ble_eq_true rfl) (by decide) (by decide) rfl fl_X4_13 (Or.inl rfl) ?_
    rw [acC_c]
    refine r_dup_x1 dX4_sings_27 rfl rfl ?_
    refine r_iconst (v := 1) dX4_sings_28 (by decide) ?_
    refine r_iaddN (A.2.1) (1) dX4_sings_29 ?_
    refine r_putI dX4_sings_30 (ci := 9) (kf := 1) rfl (Nat.le_of_ble_eq_true rfl) (by decide) (by decide) rfl fl_X4_13 (Or.inl rfl) rfl rfl rfl ?_
    refine r_bipush (v := 41) dX4_sings_33 (by decide) ?_
    refine r_iast (j := A.2.1) dX4_sings_35 rfl (Nat.le_of_ble_eq_true rfl) rfl (by omega) (by decide) ?_
    rw [acC_b (by omega)]
    exact PW.subL J (by repeat' first | exact True.intro | refine And.intro rfl ?_)
set_option maxRecDepth 20000 in
set_option maxHeartbeats 1000000 in
theorem s_s3_5 (g : pG) {M : Nat → Nat → Int32} {A : aT} (hA : A.2.1 ≤ 30) (ko : Nat) (o1 : Int32) (hn : M 53 1 = nI ko) (ho : M 53 2 = o1) (x : Int32) : MS g mX3_sings 2 0 0 [.ref 53, .int x] (Gs (acC M A)) (dI (sng0 ko 5 o1 x A).1 (Gs (acC M (sng0 ko 5 o1 x A).2))) := by
  refine MS.of pn_X3 (Nat.le_of_ble_eq_true rfl) ?_
  have J : PW g mX3_sings (eN g (Gs (acC M A)).1 2 0 0 (dI (sng0 ko 5 o1 x A).1 (Gs (acC M (sng0 ko 5 o1 x A).2)))) 36 [some (.ref 53), some (.int x)] [] (Gs (acC M (stA 11 A))) 0 0 := by
    refine r_aload_n dX3_sings_36 rfl rfl ?_
    refine r_iload_n dX3_sings_37 rfl rfl ?_
    refine r_callU_dI (ci := 7) dX3_sings_38 (s_bw_5 g (stA_le hA) ko o1 hn ho _) mf_X3_bows mi_X3_bows se_X7_X3_X3_bows ml_X3_29 sm_X3_X3_bows rfl rfl rfl (Nat.le_of_ble_eq_true rfl) rfl (by decide) (Nat.le_of_ble_eq_true rfl) ⟨(Nat.le_of_ble_eq_true rfl), (Nat.le_of_ble_eq_true rfl)⟩ ⟨(Nat.le_of_ble_eq_true rfl), (Nat.le_of_ble_eq_true rfl)⟩ ?_
    refine r_aload_n dX3_sings_41 rfl rfl ?_
    refine r_getI dX3_sings_42 (ci := 7) (kf := 2) rfl (Nat.le_of_ble_eq_true rfl) (by decide) (by decide) rfl fl_X3_17 (Or.inl rfl) ?_
    rw [show ∀ A : aT, (Gs (acC M A)).2.2.2 53 2 = o1 from fun _ => ho]
    refine r_iconst (v := 2) dX3_sings_45 (by decide) ?_
    refine r_imul dX3_sings_46 ?_
    refine r_iadd dX3_sings_47 ?_
    refine r_iret dX3_sings_48 rfl (Nat.le_refl _) ?_
    (try dsimp only [Gs_M])
    exact ⟨rfl, rfl⟩
  refine r_aload_n dX3_sings_0 rfl rfl ?_
  refine r_getR (q := 45) dX3_sings_1 (ci := 7) (kf := 0) rfl (Nat.le_of_ble_eq_true rfl) (by decide) (by decide) rfl fl_X3_7 (Or.inl rfl) rfl ?_
  refine r_getI dX3_sings_4 (ci := 9) (kf := 1) rfl (Nat.le_of_ble_eq_true rfl) (by decide) (by decide) rfl fl_X3_20 (Or.inl rfl) ?_
  rw [acC_c]
  refine r_bipush (v := 30) dX3_sings_7 (by decide) ?_
  refine r_icmp_geN (A.2.1) (30) (tgt := 36) dX3_sings_9 (by decide) (by omega) (by omega) (fun c_9 => ?_) (fun c_9 => ?_)
  · (try dsimp only [Gs_M] at c_9)
    rw [acC_n (b := 11) (by omega)]
    exact PW.subL J (by repeat' first | exact True.intro | refine And.intro rfl ?_)
  · (try dsimp only [Gs_M] at c_9)
    refine r_aload_n dX3_sings_12 rfl rfl ?_
    refine r_getR (q := 45) dX3_sings_13 (ci := 7) (kf := 0) rfl (Nat.le_of_ble_eq_true rfl) (by decide) (by decide) rfl fl_X3_7 (Or.inl rfl) rfl ?_
    refine r_getR (q := 46) dX3_sings_16 (ci := 9) (kf := 0) rfl (Nat.le_of_ble_eq_true rfl) (by decide) (by decide) rfl fl_X3_25 (Or.inl rfl) rfl ?_
    refine r_aload_n dX3_sings_19 rfl rfl ?_
    refine r_getR (q := 45) dX3_sings_20 (ci := 7) (kf := 0) rfl (Nat.le_of_ble_eq_true rfl) (by decide) (by decide) rfl fl_X3_7 (Or.inl rfl) rfl ?_
    refine r_dup dX3_sings_23 rfl ?_
    refine r_getI dX3_sings_24 (ci := 9) (kf := 1) rfl (Nat.le_of_ble_eq_true rfl) (by decide) (by decide) rfl fl_X3_20 (Or.inl rfl) ?_
    rw [acC_c]
    refine r_dup_x1 dX3_sings_27 rfl rfl ?_
    refine r_iconst (v := 1) dX3_sings_28 (by decide) ?_
    refine r_iaddN (A.2.1) (1) dX3_sings_29 ?_
    refine r_putI dX3_sings_30 (ci := 9) (kf := 1) rfl (Nat.le_of_ble_eq_true rfl) (by decide) (by decide) rfl fl_X3_20 (Or.inl rfl) rfl rfl rfl ?_
    refine r_bipush (v := 11) dX3_sings_33 (by decide) ?_
    refine r_iast (j := A.2.1) dX3_sings_35 rfl (Nat.le_of_ble_eq_true rfl) rfl (by omega) (by decide) ?_
    rw [acC_b (by omega)]
    exact PW.subL J (by repeat' first | exact True.intro | refine And.intro rfl ?_)
theorem s_sg_5 (g : pG) {M : Nat → Nat → Int32} {A : aT} (hA : A.2.1 ≤ 30) (ko : Nat) (o1 : Int32) (hn : M 53 1 = nI ko) (ho : M 53 2 = o1) (x : Int32) : MS g mX3_sings 2 0 0 [.ref 53, .int x] (Gs (acC M A)) (dI (sngK ko 5 o1 5 x A).1 (Gs (acC M (sngK ko 5 o1 5 x A).2))) := s_s3_5 g hA ko o1 hn ho x
set_option maxRecDepth 20000 in
set_option maxHeartbeats 1000000 in
theorem s_p3_0 (g : pG) {M : Nat → Nat → Int32} {A : aT} (hA : A.2.1 ≤ 30) (ko : Nat) (o1 : Int32) (hn : M 48 1 = nI ko) (ho : M 48 2 = o1) (hp : A.2.2 = 0) (x : Int32) : MS g mX3_parts 1 0 0 [.ref 48, .int x] (Gs (acC M A)) (dI (prt0 ko o1 x A).1 (Gs (acC M (prt0 ko o1 x A).2))) := by
  refine MS.of pn_X3 (Nat.le_of_ble_eq_true rfl) ?_
  have J : PW g mX3_parts (eN g (Gs (acC M A)).1 1 0 0 (dI (prt0 ko o1 x A).1 (Gs (acC M (prt0 ko o1 x A).2)))) 36 [some (.ref 48), some (.int x)] [] (Gs (acC M (stA 12 A))) 0 0 := by
    refine r_aload_n dX3_parts_36 rfl rfl ?_
    refine r_getI dX3_parts_37 (ci := 3) (kf := 2) rfl (Nat.le_of_ble_eq_true rfl) (by decide) (by decide) rfl fl_X3_17 (Or.inl rfl) ?_
    rw [show ∀ A : aT, (Gs (acC M A)).2.2.2 48 2 = o1 from fun _ => ho]
    refine r_aload_n dX3_parts_40 rfl rfl ?_
    refine r_getI dX3_parts_41 (ci := 3) (kf := 1) rfl (Nat.le_of_ble_eq_true rfl) (by decide) (by decide) rfl fl_X3_13 (Or.inl rfl) ?_
    rw [show ∀ A : aT, (Gs (acC M A)).2.2.2 48 1 = nI ko from fun _ => hn]
    refine r_icmp_ne (tgt := 57) dX3_parts_44 (by decide) (fun c_44 => ?_) (fun c_44 => ?_)
    · (try dsimp only [Gs_M] at c_44)
      refine r_iload_n dX3_parts_57 rfl rfl ?_
      refine r_aload_n dX3_parts_58 rfl rfl ?_
      refine r_getI dX3_parts_59 (ci := 3) (kf := 2) rfl (Nat.le_of_ble_eq_true rfl) (by decide) (by decide) rfl fl_X3_17 (Or.inl rfl) ?_
      rw [show ∀ A : aT, (Gs (acC M A)).2.2.2 48 2 = o1 from fun _ => ho]
      refine r_aload_n dX3_parts_62 rfl rfl ?_
      refine r_getI dX3_parts_63 (ci := 3) (kf := 1) rfl (Nat.le_of_ble_eq_true rfl) (by decide) (by decide) rfl fl_X3_13 (Or.inl rfl) ?_
      rw [show ∀ A : aT, (Gs (acC M A)).2.2.2 48 1 = nI ko from fun _ => hn]
      refine r_isub dX3_parts_66 ?_
      refine r_idiv dX3_parts_67 (fun z => c_44 (i_sub0.mp z)) ?_
      refine r_iret dX3_parts_68 rfl (Nat.le_refl _) ?_
      (try dsimp only [Gs_M])
      rw [prt0_y hp c_44]
      exact ⟨rfl, rfl⟩
    · (try dsimp only [Gs_M] at c_44)
      refine r_aload_n dX3_parts_47 rfl rfl ?_
      refine r_getR (q := 45) dX3_parts_48 (ci := 3) (kf := 0) rfl (Nat.le_of_ble_eq_true rfl) (by decide) (by decide) rfl fl_X3_7 (Or.inl rfl) rfl ?_
      refine r_iconst (v := 1) dX3_parts_51 (by decide) ?_
      refine r_putI dX3_parts_52 (ci := 9) (kf := 2) rfl (Nat.le_of_ble_eq_true rfl) (by decide) (by decide) rfl fl_X3_33 (Or.inl rfl) rfl rfl rfl ?_
      rw [acC_sp]
      refine r_iconst (v := 0) dX3_parts_55 (by decide) ?_
      refine r_iret dX3_parts_56 rfl (Nat.le_refl _) ?_
      (try dsimp only [Gs_M])
      rw [prt0_n c_44]
      exact ⟨rfl, rfl⟩
  refine r_aload_n dX3_parts_0 rfl rfl ?_
  refine r_getR (q := 45) dX3_parts_1 (ci := 3) (kf := 0) rfl (Nat.le_of_ble_eq_true rfl) (by decide) (by decide) rfl fl_X3_7 (Or.inl rfl) rfl ?_
  refine r_getI dX3_parts_4 (ci := 9) (kf := 1) rfl (Nat.le_of_ble_eq_true rfl) (by decide) (by decide) rfl fl_X3_20 (Or.inl rfl) ?_
  rw [acC_c]
  refine r_bipush (v := 30) dX3_parts_7 (by decide) ?_
  refine r_icmp_geN (A.2.1) (30) (tgt := 36) dX3_parts_9 (by decide) (by omega) (by omega) (fun c_9 => ?_) (fun c_9 => ?_)
  · (try dsimp only [Gs_M] at c_9)
    rw [acC_n (b := 12) (by omega)]
    exact PW.subL J (by repeat' first | exact True.intro | refine And.intro rfl ?_)
  · (try dsimp only [Gs_M] at c_9)
    refine r_aload_n dX3_parts_12 rfl rfl ?_
    refine r_getR (q := 45) dX3_parts_13 (ci := 3) (kf := 0) rfl (Nat.le_of_ble_eq_true rfl) (by decide) (by decide) rfl fl_X3_7 (Or.inl rfl) rfl ?_
    refine r_getR (q := 46) dX3_parts_16 (ci := 9) (kf := 0) rfl (Nat.le_of_ble_eq_true rfl) (by decide) (by decide) rfl fl_X3_25 (Or.inl rfl) rfl ?_
    refine r_aload_n dX3_parts_19 rfl rfl ?_
    refine r_getR (q := 45) dX3_parts_20 (ci := 3) (kf := 0) rfl (Nat.le_of_ble_eq_true rfl) (by decide) (by decide) rfl fl_X3_7 (Or.inl rfl) rfl ?_
    refine r_dup dX3_parts_23 rfl ?_
    refine r_getI dX3_parts_24 (ci := 9) (kf := 1) rfl (Nat.le_of_ble_eq_true rfl) (by decide) (by decide) rfl fl_X3_20 (Or.inl rfl) ?_
    rw [acC_c]
    refine r_dup_x1 dX3_parts_27 rfl rfl ?_
    refine r_iconst (v := 1) dX3_parts_28 (by decide) ?_
    refine r_iaddN (A.2.1) (1) dX3_parts_29 ?_
    refine r_putI dX3_parts_30 (ci := 9) (kf := 1) rfl (Nat.le_of_ble_eq_true rfl) (by decide) (by decide) rfl fl_X3_20 (Or.inl rfl) rfl rfl rfl ?_
    refine r_bipush (v := 12) dX3_parts_33 (by decide) ?_
    refine r_iast (j := A.2.1) dX3_parts_35 rfl (Nat.le_of_ble_eq_true rfl) rfl (by omega) (by decide) ?_
    rw [acC_b (by omega)]
    exact PW.subL J (by repeat' first | exact True.intro | refine And.intro rfl ?_)
theorem s_pr_0 (g : pG) {M : Nat → Nat → Int32} {A : aT} (hA : A.2.1 ≤ 30) (ko : Nat) (o1 : Int32) (hn : M 48 1 = nI ko) (ho : M 48 2 = o1) (hp : A.2.2 = 0) (x : Int32) : MS g mX3_parts 1 0 0 [.ref 48, .int x] (Gs (acC M A)) (dI (prtK ko o1 0 x A).1 (Gs (acC M (prtK ko o1 0 x A).2))) := s_p3_0 g hA ko o1 hn ho hp x
set_option maxRecDepth 20000 in
set_option maxHeartbeats 1000000 in
theorem s_p3_1 (g : pG) {M : Nat → Nat → Int32} {A : aT} (hA : A.2.1 ≤ 30) (ko : Nat) (o1 : Int32) (hn : M 49 1 = nI ko) (ho : M 49 2 = o1) (hp : A.2.2 = 0) (x : Int32) : MS g mX3_parts 1 0 0 [.ref 49, .int x] (Gs (acC M A)) (dI (prt0 ko o1 x A).1 (Gs (acC M (prt0 ko o1 x A).2))) := by
  refine MS.of pn_X3 (Nat.le_of_ble_eq_true rfl) ?_
  have J : PW g mX3_parts (eN g (Gs (acC M A)).1 1 0 0 (dI (prt0 ko o1 x A).1 (Gs (acC M (prt0 ko o1 x A).2)))) 36 [some (.ref 49), some (.int x)] [] (Gs (acC M (stA 12 A))) 0 0 := by
    refine r_aload_n dX3_parts_36 rfl rfl ?_
    refine r_getI dX3_parts_37 (ci := 1) (kf := 2) rfl (Nat.le_of_ble_eq_true rfl) (by decide) (by decide) rfl fl_X3_17 (Or.inl rfl) ?_
    rw [show ∀ A : aT, (Gs (acC M A)).2.2.2 49 2 = o1 from fun _ => ho]
    refine r_aload_n dX3_parts_40 rfl rfl ?_
    refine r_getI dX3_parts_41 (ci := 1) (kf := 1) rfl (Nat.le_of_ble_eq_true rfl) (by decide) (by decide) rfl fl_X3_13 (Or.inl rfl) ?_
    rw [show ∀ A : aT, (Gs (acC M A)).2.2.2 49 1 = nI ko from fun _ => hn]
    refine r_icmp_ne (tgt := 57) dX3_parts_44 (by decide) (fun c_44 => ?_) (fun c_44 => ?_)
    · (try dsimp only [Gs_M] at c_44)
      refine r_iload_n dX3_parts_57 rfl rfl ?_
      refine r_aload_n dX3_parts_58 rfl rfl ?_
      refine r_getI dX3_parts_59 (ci := 1) (kf := 2) rfl (Nat.le_of_ble_eq_true rfl) (by decide) (by decide) rfl fl_X3_17 (Or.inl rfl) ?_
      rw [show ∀ A : aT, (Gs (acC M A)).2.2.2 49 2 = o1 from fun _ => ho]
      refine r_aload_n dX3_parts_62 rfl rfl ?_
      refine r_getI dX3_parts_63 (ci := 1) (kf := 1) rfl (Nat.le_of_ble_eq_true rfl) (by decide) (by decide) rfl fl_X3_13 (Or.inl rfl) ?_
      rw [show ∀ A : aT, (Gs (acC M A)).2.2.2 49 1 = nI ko from fun _ => hn]
      refine r_isub dX3_parts_66 ?_
      refine r_idiv dX3_parts_67 (fun z => c_44 (i_sub0.mp z)) ?_
      refine r_iret dX3_parts_68 rfl (Nat.le_refl _) ?_
      (try dsimp only [Gs_M])
      rw [prt0_y hp c_44]
      exact ⟨rfl, rfl⟩
    · (try dsimp only [Gs_M] at c_44)
      refine r_aload_n dX3_parts_47 rfl rfl ?_
      refine r_getR (q := 45) dX3_parts_48 (ci := 1) (kf := 0) rfl (Nat.le_of_ble_eq_true rfl) (by decide) (by decide) rfl fl_X3_7 (Or.inl rfl) rfl ?_
      refine r_iconst (v := 1) dX3_parts_51 (by decide) ?_
      refine r_putI dX3_parts_52 (ci := 9) (kf := 2) rfl (Nat.le_of_ble_eq_true rfl) (by decide) (by decide) rfl fl_X3_33 (Or.inl rfl) rfl rfl rfl ?_
      rw [acC_sp]
      refine r_iconst (v := 0) dX3_parts_55 (by decide) ?_
      refine r_iret dX3_parts_56 rfl (Nat.le_refl _) ?_
      (try dsimp only [Gs_M])
      rw [prt0_n c_44]
      exact ⟨rfl, rfl⟩
  refine r_aload_n dX3_parts_0 rfl rfl ?_
  refine r_getR (q := 45) dX3_parts_1 (ci := 1) (kf := 0) rfl (Nat.le_of_ble_eq_true rfl) (by decide) (by decide) rfl fl_X3_7 (Or.inl rfl) rfl ?_
  refine r_getI dX3_parts_4 (ci := 9) (kf := 1) rfl (Nat.le_of_ble_eq_true rfl) (by decide) (by decide) rfl fl_X3_20 (Or.inl rfl) ?_
  rw [acC_c]
  refine r_bipush (v := 30) dX3_parts_7 (by decide) ?_
  refine r_icmp_geN (A.2.1) (30) (tgt := 36) dX3_parts_9 (by decide) (by omega) (by omega) (fun c_9 => ?_) (fun c_9 => ?_)
  · (try dsimp only [Gs_M] at c_9)
    rw [acC_n (b := 12) (by omega)]
    exact PW.subL J (by repeat' first | exact True.intro | refine And.intro rfl ?_)
  · (try dsimp only [Gs_M] at c_9)
    refine r_aload_n dX3_parts_12 rfl rfl ?_
    refine r_getR (q := 45) dX3_parts_13 (ci := 1) (kf := 0) rfl (Nat.le_of_ble_eq_true rfl) (by decide) (by decide) rfl fl_X3_7 (Or.inl rfl) rfl ?_
    refine r_getR (q := 46) dX3_parts_16 (ci := 9) (kf := 0) rfl (Nat.le_of_ble_eq_true rfl) (by decide) (by decide) rfl fl_X3_25 (Or.inl rfl) rfl ?_
    refine r_aload_n dX3_parts_19 rfl rfl ?_
    refine r_getR (q := 45) dX3_parts_20 (ci := 1) (kf := 0) rfl (Nat.le_of_ble_eq_true rfl) (by decide) (by decide) rfl fl_X3_7 (Or.inl rfl) rfl ?_
    refine r_dup dX3_parts_23 rfl ?_
    refine r_getI dX3_parts_24 (ci := 9) (kf := 1) rfl (Nat.le_of_ble_eq_true rfl) (by decide) (by decide) rfl fl_X3_20 (Or.inl rfl) ?_
    rw [acC_c]
    refine r_dup_x1 dX3_parts_27 rfl rfl ?_
    refine r_iconst (v := 1) dX3_parts_28 (by decide) ?_
    refine r_iaddN (A.2.1) (1) dX3_parts_29 ?_
    refine r_putI dX3_parts_30 (ci := 9) (kf := 1) rfl (Nat.le_of_ble_eq_true rfl) (by decide) (by decide) rfl fl_X3_20 (Or.inl rfl) rfl rfl rfl ?_
    refine r_bipush (v := 12) dX3_parts_33 (by decide) ?_
    refine r_iast (j := A.2.1) dX3_parts_35 rfl (Nat.le_of_ble_eq_true rfl) rfl (by omega) (by decide) ?_
    rw [acC_b (by omega)]
    exact PW.subL J (by repeat' first | exact True.intro | refine And.intro rfl ?_)
theorem s_pr_1 (g : pG) {M : Nat → Nat → Int32} {A : aT} (hA : A.2.1 ≤ 30) (ko : Nat) (o1 : Int32) (hn : M 49 1 = nI ko) (ho : M 49 2 = o1) (hp : A.2.2 = 0) (x : Int32) : MS g mX3_parts 1 0 0 [.ref 49, .int x] (Gs (acC M A)) (dI (prtK ko o1 1 x A).1 (Gs (acC M (prtK ko o1 1 x A).2))) := s_p3_1 g hA ko o1 hn ho hp x
set_option maxRecDepth 20000 in
set_option maxHeartbeats 1000000 in
theorem s_p3_2 (g : pG) {M : Nat → Nat → Int32} {A : aT} (hA : A.2.1 ≤ 30) (ko : Nat) (o1 : Int32) (hn : M 50 1 = nI ko) (ho : M 50 2 = o1) (hp : A.2.2 = 0) (x : Int32) : MS g mX3_parts 1 0 0 [.ref 50, .int x] (Gs (acC M A)) (dI (prt0 ko o1 x A).1 (Gs (acC M (prt0 ko o1 x A).2))) := by
  refine MS.of pn_X3 (Nat.le_of_ble_eq_true rfl) ?_
  have J : PW g mX3_parts (eN g (Gs (acC M A)).1 1 0 0 (dI (prt0 ko o1 x A).1 (Gs (acC M (prt0 ko o1 x A).2)))) 36 [some (.ref 50), some (.int x)] [] (Gs (acC M (stA 12 A))) 0 0 := by
    refine r_aload_n dX3_parts_36 rfl rfl ?_
    refine r_getI dX3_parts_37 (ci := 2) (kf := 2) rfl (Nat.le_of_ble_eq_true rfl) (by decide) (by decide) rfl fl_X3_17 (Or.inl rfl) ?_
    rw [show ∀ A : aT, (Gs (acC M A)).2.2.2 50 2 = o1 from fun _ => ho]
    refine r_aload_n dX3_parts_40 rfl rfl ?_
    refine r_getI dX3_parts_41 (ci := 2) (kf := 1) rfl (Nat.le_of_ble_eq_true rfl) (by decide) (by decide) rfl fl_X3_13 (Or.inl rfl) ?_
    rw [show ∀ A : aT, (Gs (acC M A)).2.2.2 50 1 = nI ko from fun _ => hn]
    refine r_icmp_ne (tgt := 57) dX3_parts_44 (by decide) (fun c_44 => ?_) (fun c_44 => ?_)
    · (try dsimp only [Gs_M] at c_44)
      refine r_iload_n dX3_parts_57 rfl rfl ?_
      refine r_aload_n dX3_parts_58 rfl rfl ?_
      refine r_getI dX3_parts_59 (ci := 2) (kf := 2) rfl (Nat.le_of_ble_eq_true rfl) (by decide) (by decide) rfl fl_X3_17 (Or.inl rfl) ?_
      rw [show ∀ A : aT, (Gs (acC M A)).2.2.2 50 2 = o1 from fun _ => ho]
      refine r_aload_n dX3_parts_62 rfl rfl ?_
      refine r_getI dX3_parts_63 (ci := 2) (kf := 1) rfl (Nat.le_of_ble_eq_true rfl) (by decide) (by decide) rfl fl_X3_13 (Or.inl rfl) ?_
      rw [show ∀ A : aT, (Gs (acC M A)).2.2.2 50 1 = nI ko from fun _ => hn]
      refine r_isub dX3_parts_66 ?_
      refine r_idiv dX3_parts_67 (fun z => c_44 (i_sub0.mp z)) ?_
      refine r_iret dX3_parts_68 rfl (Nat.le_refl _) ?_
      (try dsimp only [Gs_M])
      rw [prt0_y hp c_44]
      exact ⟨rfl, rfl⟩
    · (try dsimp only [Gs_M] at c_44)
      refine r_aload_n dX3_parts_47 rfl rfl ?_
      refine r_getR (q := 45) dX3_parts_48 (ci := 2) (kf := 0) rfl (Nat.le_of_ble_eq_true rfl) (by decide) (by decide) rfl fl_X3_7 (Or.inl rfl) rfl ?_
      refine r_iconst (v := 1) dX3_parts_51 (by decide) ?_
      refine r_putI dX3_parts_52 (ci := 9) (kf := 2) rfl (Nat.le_of_ble_eq_true rfl) (by decide) (by decide) rfl fl_X3_33 (Or.inl rfl) rfl rfl rfl ?_
      rw [acC_sp]
      refine r_iconst (v := 0) dX3_parts_55 (by decide) ?_
      refine r_iret dX3_parts_56 rfl (Nat.le_refl _) ?_
      (try dsimp only [Gs_M])
      rw [prt0_n c_44]
      exact ⟨rfl, rfl⟩
  refine r_aload_n dX3_parts_0 rfl rfl ?_
  refine r_getR (q := 45) dX3_parts_1 (ci := 2) (kf := 0) rfl (Nat.le_of_ble_eq_true rfl) (by decide) (by decide) rfl fl_X3_7 (Or.inl rfl) rfl ?_
  refine r_getI dX3_parts_4 (ci := 9) (kf := 1) rfl (Nat.le_of_ble_eq_true rfl) (by decide) (by decide) rfl fl_X3_20 (Or.inl rfl) ?_
  rw [acC_c]
  refine r_bipush (v := 30) dX3_parts_7 (by decide) ?_
  refine r_icmp_geN (A.2.1) (30) (tgt := 36) dX3_parts_9 (by decide) (by omega) (by omega) (fun c_9 => ?_) (fun c_9 => ?_)
  · (try dsimp only [Gs_M] at c_9)
    rw [acC_n (b := 12) (by omega)]
    exact PW.subL J (by repeat' first | exact True.intro | refine And.intro rfl ?_)
  · (try dsimp only [Gs_M] at c_9)
    refine r_aload_n dX3_parts_12 rfl rfl ?_
    refine r_getR (q := 45) dX3_parts_13 (ci := 2) (kf := 0) rfl (Nat.le_of_ble_eq_true rfl) (by decide) (by decide) rfl fl_X3_7 (Or.inl rfl) rfl ?_
    refine r_getR (q := 46) dX3_parts_16 (ci := 9) (kf := 0) rfl (Nat.le_of_ble_eq_true rfl) (by decide) (by decide) rfl fl_X3_25 (Or.inl rfl) rfl ?_
    refine r_aload_n dX3_parts_19 rfl rfl ?_
    refine r_getR (q := 45) dX3_parts_20 (ci := 2) (kf := 0) rfl (Nat.le_of_ble_eq_true rfl) (by decide) (by decide) rfl fl_X3_7 (Or.inl rfl) rfl ?_
    refine r_dup dX3_parts_23 rfl ?_
    refine r_getI dX3_parts_24 (ci := 9) (kf := 1) rfl (Nat.le_of_ble_eq_true rfl) (by decide) (by decide) rfl fl_X3_20 (Or.inl rfl) ?_
    rw [acC_c]
    refine r_dup_x1 dX3_parts_27 rfl rfl ?_
    refine r_iconst (v := 1) dX3_parts_28 (by decide) ?_
    refine r_iaddN (A.2.1) (1) dX3_parts_29 ?_
    refine r_putI dX3_parts_30 (ci := 9) (kf := 1) rfl (Nat.le_of_ble_eq_true rfl) (by decide) (by decide) rfl fl_X3_20 (Or.inl rfl) rfl rfl rfl ?_
    refine r_bipush (v := 12) dX3_parts_33 (by decide) ?_
    refine r_iast (j := A.2.1) dX3_parts_35 rfl (Nat.le_of_ble_eq_true rfl) rfl (by omega) (by decide) ?_
    rw [acC_b (by omega)]
    exact PW.subL J (by repeat' first | exact True.intro | refine And.intro rfl ?_)
theorem s_pr_2 (g : pG) {M : Nat → Nat → Int32} {A : aT} (hA : A.2.1 ≤ 30) (ko : Nat) (o1 : Int32) (hn : M 50 1 = nI ko) (ho : M 50 2 = o1) (hp : A.2.2 = 0) (x : Int32) : MS g mX3_parts 1 0 0 [.ref 50, .int x] (Gs (acC M A)) (dI (prtK ko o1 2 x A).1 (Gs (acC M (prtK ko o1 2 x A).2))) := s_p3_2 g hA ko o1 hn ho hp x
set_option maxRecDepth 20000 in
set_option maxHeartbeats 1000000 in
theorem s_p3_3 (g : pG) {M : Nat → Nat → Int32} {A : aT} (hA : A.2.1 ≤ 30) (ko : Nat) (o1 : Int32) (hn : M 51 1 = nI ko) (ho : M 51 2 = o1) (hp : A.2.2 = 0) (x : Int32) : MS g mX3_parts 1 0 0 [.ref 51, .int x] (Gs (acC M A)) (dI (prt0 ko o1 x A).1 (Gs (acC M (prt0 ko o1 x A).2))) := by
  refine MS.of pn_X3 (Nat.le_of_ble_eq_true rfl) ?_
  have J : PW g mX3_parts (eN g (Gs (acC M A)).1 1 0 0 (dI (prt0 ko o1 x A).1 (Gs (acC M (prt0 ko o1 x A).2)))) 36 [some (.ref 51), some (.int x)] [] (Gs (acC M (stA 12 A))) 0 0 := by
    refine r_aload_n dX3_parts_36 rfl rfl ?_
    refine r_getI dX3_parts_37 (ci := 5) (kf := 2) rfl (Nat.le_of_ble_eq_true rfl) (by decide) (by decide) rfl fl_X3_17 (Or.inl rfl) ?_
    rw [show ∀ A : aT, (Gs (acC M A)).2.2.2 51 2 = o1 from fun _ => ho]
    refine r_aload_n dX3_parts_40 rfl rfl ?_
    refine r_getI dX3_parts_41 (ci := 5) (kf := 1) rfl (Nat.le_of_ble_eq_true rfl) (by decide) (by decide) rfl fl_X3_13 (Or.inl rfl) ?_
    rw [show ∀ A : aT, (Gs (acC M A)).2.2.2 51 1 = nI ko from fun _ => hn]
    refine r_icmp_ne (tgt := 57) dX3_parts_44 (by decide) (fun c_44 => ?_) (fun c_44 => ?_)
    · (try dsimp only [Gs_M] at c_44)
      refine r_iload_n dX3_parts_57 rfl rfl ?_
      refine r_aload_n dX3_parts_58 rfl rfl ?_
      refine r_getI dX3_parts_59 (ci := 5) (kf := 2) rfl (Nat.le_of_ble_eq_true rfl) (by decide) (by decide) rfl fl_X3_17 (Or.inl rfl) ?_
      rw [show ∀ A : aT, (Gs (acC M A)).2.2.2 51 2 = o1 from fun _ => ho]
      refine r_aload_n dX3_parts_62 rfl rfl ?_
      refine r_getI dX3_parts_63 (ci := 5) (kf := 1) rfl (Nat.le_of_ble_eq_true rfl) (by decide) (by decide) rfl fl_X3_13 (Or.inl rfl) ?_
      rw [show ∀ A : aT, (Gs (acC M A)).2.2.2 51 1 = nI ko from fun _ => hn]
      refine r_isub dX3_parts_66 ?_
      refine r_idiv dX3_parts_67 (fun z => c_44 (i_sub0.mp z)) ?_
      refine r_iret dX3_parts_68 rfl (Nat.le_refl _) ?_
      (try dsimp only [Gs_M])
      rw [prt0_y hp c_44]
      exact ⟨rfl, rfl⟩
    · (try dsimp only [Gs_M] at c_44)
      refine r_aload_n dX3_parts_47 rfl rfl ?_
      refine r_getR (q := 45) dX3_parts_48 (ci := 5) (kf := 0) rfl (Nat.le_of_ble_eq_true rfl) (by decide) (by decide) rfl fl_X3_7 (Or.inl rfl) rfl ?_
      refine r_iconst (v := 1) dX3_parts_51 (by decide) ?_
      refine r_putI dX3_parts_52 (ci := 9) (kf := 2) rfl (Nat.le_of_ble_eq_true rfl) (by decide) (by decide) rfl fl_X3_33 (Or.inl rfl) rfl rfl rfl ?_
      rw [acC_sp]
      refine r_iconst (v := 0) dX3_parts_55 (by decide) ?_
      refine r_iret dX3_parts_56 rfl (Nat.le_refl _) ?_
      (try dsimp only [Gs_M])
      rw [prt0_n c_44]
      exact ⟨rfl, rfl⟩
  refine r_aload_n dX3_parts_0 rfl rfl ?_
  refine r_getR (q := 45) dX3_parts_1 (ci := 5) (kf := 0) rfl (Nat.le_of_ble_eq_true rfl) (by decide) (by decide) rfl fl_X3_7 (Or.inl rfl) rfl ?_
  refine r_getI dX3_parts_4 (ci := 9) (kf := 1) rfl (Nat.le_of_ble_eq_true rfl) (by decide) (by decide) rfl fl_X3_20 (Or.inl rfl) ?_
  rw [acC_c]
  refine r_bipush (v := 30) dX3_parts_7 (by decide) ?_
  refine r_icmp_geN (A.2.1) (30) (tgt := 36) dX3_parts_9 (by decide) (by omega) (by omega) (fun c_9 => ?_) (fun c_9 => ?_)
  · (try dsimp only [Gs_M] at c_9)
    rw [acC_n (b := 12) (by omega)]
    exact PW.subL J (by repeat' first | exact True.intro | refine And.intro rfl ?_)
  · (try dsimp only [Gs_M] at c_9)
    refine r_aload_n dX3_parts_12 rfl rfl ?_
    refine r_getR (q := 45) dX3_parts_13 (ci := 5) (kf := 0) rfl (Nat.le_of_ble_eq_true rfl) (by decide) (by decide) rfl fl_X3_7 (Or.inl rfl) rfl ?_
    refine r_getR (q := 46) dX3_parts_16 (ci := 9) (kf := 0) rfl (Nat.le_of_ble_eq_true rfl) (by decide) (by decide) rfl fl_X3_25 (Or.inl rfl) rfl ?_
    refine r_aload_n dX3_parts_19 rfl rfl ?_
    refine r_getR (q := 45) dX3_parts_20 (ci := 5) (kf := 0) rfl (Nat.le_of_ble_eq_true rfl) (by decide) (by decide) rfl fl_X3_7 (Or.inl rfl) rfl ?_
    refine r_dup dX3_parts_23 rfl ?_
    refine r_getI dX3_parts_24 (ci := 9) (kf := 1) rfl (Nat.le_of_ble_eq_true rfl) (by decide) (by decide) rfl fl_X3_20 (Or.inl rfl) ?_
    rw [acC_c]
    refine r_dup_x1 dX3_parts_27 rfl rfl ?_
    refine r_iconst (v := 1) dX3_parts_28 (by decide) ?_
    refine r_iaddN (A.2.1) (1) dX3_parts_29 ?_
    refine r_putI dX3_parts_30 (ci := 9) (kf := 1) rfl (Nat.le_of_ble_eq_true rfl) (by decide) (by decide) rfl fl_X3_20 (Or.inl rfl) rfl rfl rfl ?_
    refine r_bipush (v := 12) dX3_parts_33 (by decide) ?_
    refine r_iast (j := A.2.1) dX3_parts_35 rfl (Nat.le_of_ble_eq_true rfl) rfl (by omega) (by decide) ?_
    rw [acC_b (by omega)]
    exact PW.subL J (by repeat' first | exact True.intro | refine And.intro rfl ?_)
set_option maxRecDepth 20000 in
set_option maxHeartbeats 1000000 in
theorem s_pr_3 (g : pG) {M : Nat → Nat → Int32} {A : aT} (hA : A.2.1 ≤ 30) (ko : Nat) (o1 : Int32) (hn : M 51 1 = nI ko) (ho : M 51 2 = o1) (hp : A.2.2 = 0) (x : Int32) : MS g mX5_parts 2 0 0 [.ref 51, .int x] (Gs (acC M A)) (dI (prtK ko o1 3 x A).1 (Gs (acC M (prtK ko o1 3 x A).2))) := by
  refine MS.of pn_X5 (Nat.le_of_ble_eq_true rfl) ?_
  have J : PW g mX5_parts (eN g (Gs (acC M A)).1 2 0 0 (dI (prtK ko o1 3 x A).1 (Gs (acC M (prtK ko o1 3 x A).2)))) 36 [some (.ref 51), some (.int x)] [] (Gs (acC M (stA 50 A))) 0 0 := by
    refine r_aload_n dX5_parts_36 rfl rfl ?_
    refine r_iload_n dX5_parts_37 rfl rfl ?_
    refine r_bipush (v := 7) dX5_parts_38 (by decide) ?_
    refine r_isub dX5_parts_40 ?_
    refine r_callSUo_dI (ci := 5) dX5_parts_41 (s_p3_3 g (stA_le hA) ko o1 hn ho hp _) mf_X3_parts mi_X3_parts ml_X5_23 sm_X1_X3_parts su_X5_X1 su_X1_X3 rfl rfl (by decide) rfl rfl (Nat.le_of_ble_eq_true rfl) rfl (by decide) (Nat.le_of_ble_eq_true rfl) ⟨(Nat.le_of_ble_eq_true rfl), (Nat.le_of_ble_eq_true rfl)⟩ ⟨(Nat.le_of_ble_eq_true rfl), (Nat.le_of_ble_eq_true rfl)⟩ ?_
    refine r_aload_n dX5_parts_44 rfl rfl ?_
    refine r_getI dX5_parts_45 (ci := 5) (kf := 2) rfl (Nat.le_of_ble_eq_true rfl) (by decide) (by decide) rfl fl_X5_27 (Or.inr sf_X5_a) ?_
    rw [show ∀ A : aT, (Gs (acC M A)).2.2.2 51 2 = o1 from fun _ => ho]
    refine r_isub dX5_parts_48 ?_
    refine r_iret dX5_parts_49 rfl (Nat.le_refl _) ?_
    (try dsimp only [Gs_M])
    exact ⟨rfl, rfl⟩
  refine r_aload_n dX5_parts_0 rfl rfl ?_
  refine r_getR (q := 45) dX5_parts_1 (ci := 5) (kf := 0) rfl (Nat.le_of_ble_eq_true rfl) (by decide) (by decide) rfl fl_X5_7 (Or.inr sf_X5_log) rfl ?_
  refine r_getI dX5_parts_4 (ci := 9) (kf := 1) rfl (Nat.le_of_ble_eq_true rfl) (by decide) (by decide) rfl fl_X5_13 (Or.inl rfl) ?_
  rw [acC_c]
  refine r_bipush (v := 30) dX5_parts_7 (by decide) ?_
  refine r_icmp_geN (A.2.1) (30) (tgt := 36) dX5_parts_9 (by decide) (by omega) (by omega) (fun c_9 => ?_) (fun c_9 => ?_)
  · (try dsimp only [Gs_M] at c_9)
    rw [acC_n (b := 50) (by omega)]
    exact PW.subL J (by repeat' first | exact True.intro | refine And.intro rfl ?_)
  · (try dsimp only [Gs_M] at c_9)
    refine r_aload_n dX5_parts_12 rfl rfl ?_
    refine r_getR (q := 45) dX5_parts_13 (ci := 5) (kf := 0) rfl (Nat.le_of_ble_eq_true rfl) (by decide) (by decide) rfl fl_X5_7 (Or.inr sf_X5_log) rfl ?_
    refine r_getR (q := 46) dX5_parts_16 (ci := 9) (kf := 0) rfl (Nat.le_of_ble_eq_true rfl) (by decide) (by decide) rfl fl_X5_19 (Or.inl rfl) rfl ?_
    refine r_aload_n dX5_parts_19 rfl rfl ?_
    refine r_getR (q := 45) dX5_parts_20 (ci := 5) (kf := 0) rfl (Nat.le_of_ble_eq_true rfl) (by decide) (by decide) rfl fl_X5_7 (Or.inr sf_X5_log) rfl ?_
    refine r_dup dX5_parts_23 rfl ?_
    refine r_getI dX5_parts_24 (ci := 9) (kf := 1) rfl (Nat.le_of_ble_eq_true rfl) (by decide) (by decide) rfl fl_X5_13 (Or.inl rfl) ?_
    rw [acC_c]
    refine r_dup_x1 dX5_parts_27 rfl rfl ?_
    refine r_iconst (v := 1) dX5_parts_28 (by decide) ?_
    refine r_iaddN (A.2.1) (1) dX5_parts_29 ?_
    refine r_putI dX5_parts_30 (ci := 9) (kf := 1) rfl (Nat.le_of_ble_eq_true rfl) (by decide) (by decide) rfl fl_X5_13 (Or.inl rfl) rfl rfl rfl ?_
    refine r_bipush (v := 50) dX5_parts_33 (by decide) ?_
    refine r_iast (j := A.2.1) dX5_parts_35 rfl (Nat.le_of_ble_eq_true rfl) rfl (by omega) (by decide) ?_
    rw [acC_b (by omega)]
    exact PW.subL J (by repeat' first | exact True.intro | refine And.intro rfl ?_)
set_option maxRecDepth 20000 in
set_option maxHeartbeats 1000000 in
theorem s_p3_4 (g : pG) {M : Nat → Nat → Int32} {A : aT} (hA : A.2.1 ≤ 30) (ko : Nat) (o1 : Int32) (hn : M 52 1 = nI ko) (ho : M 52 2 = o1) (hp : A.2.2 = 0) (x : Int32) : MS g mX3_parts 1 0 0 [.ref 52, .int x] (Gs (acC M A)) (dI (prt0 ko o1 x A).1 (Gs (acC M (prt0 ko o1 x A).2))) := by
  refine MS.of pn_X3 (Nat.le_of_ble_eq_true rfl) ?_
  have J : PW g mX3_parts (eN g (Gs (acC M A)).1 1 0 0 (dI (prt0 ko o1 x A).1 (Gs (acC M (prt0 ko o1 x A).2)))) 36 [some (.ref 52), some (.int x)] [] (Gs (acC M (stA 12 A))) 0 0 := by
    refine r_aload_n dX3_parts_36 rfl rfl ?_
    refine r_getI dX3_parts_37 (ci := 4) (kf := 2) rfl (Nat.le_of_ble_eq_true rfl) (by decide) (by decide) rfl fl_X3_17 (Or.inl rfl) ?_
    rw [show ∀ A : aT, (Gs (acC M A)).2.2.2 52 2 = o1 from fun _ => ho]
    refine r_aload_n dX3_parts_40 rfl rfl ?_
    refine r_getI dX3_parts_41 (ci := 4) (kf := 1) rfl (Nat.le_of_ble_eq_true rfl) (by decide) (by decide) rfl fl_X3_13 (Or.inl rfl) ?_
    rw [show ∀ A : aT, (Gs (acC M A)).2.2.2 52 1 = nI ko from fun _ => hn]
    refine r_icmp_ne (tgt := 57) dX3_parts_44 (by decide) (fun c_44 => ?_) (fun c_44 => ?_)
    · (try dsimp only [Gs_M] at c_44)
      refine r_iload_n dX3_parts_57 rfl rfl ?_
      refine r_aload_n dX3_parts_58 rfl rfl ?_
      refine r_getI dX3_parts_59 (ci := 4) (kf := 2) rfl (Nat.le_of_ble_eq_true rfl) (by decide) (by decide) rfl fl_X3_17 (Or.inl rfl) ?_
      rw [show ∀ A : aT, (Gs (acC M A)).2.2.2 52 2 = o1 from fun _ => ho]
      refine r_aload_n dX3_parts_62 rfl rfl ?_
      refine r_getI dX3_parts_63 (ci := 4) (kf := 1) rfl (Nat.le_of_ble_eq_true rfl) (by decide) (by decide) rfl fl_X3_13 (Or.inl rfl) ?_
      rw [show ∀ A : aT, (Gs (acC M A)).2.2.2 52 1 = nI ko from fun _ => hn]
      refine r_isub dX3_parts_66 ?_
      refine r_idiv dX3_parts_67 (fun z => c_44 (i_sub0.mp z)) ?_
      refine r_iret dX3_parts_68 rfl (Nat.le_refl _) ?_
      (try dsimp only [Gs_M])
      rw [prt0_y hp c_44]
      exact ⟨rfl, rfl⟩
    · (try dsimp only [Gs_M] at c_44)
      refine r_aload_n dX3_parts_47 rfl rfl ?_
      refine r_getR (q := 45) dX3_parts_48 (ci := 4) (kf := 0) rfl (Nat.le_of_ble_eq_true rfl) (by decide) (by decide) rfl fl_X3_7 (Or.inl rfl) rfl ?_
      refine r_iconst (v := 1) dX3_parts_51 (by decide) ?_
      refine r_putI dX3_parts_52 (ci := 9) (kf := 2) rfl (Nat.le_of_ble_eq_true rfl) (by decide) (by decide) rfl fl_X3_33 (Or.inl rfl) rfl rfl rfl ?_
      rw [acC_sp]
      refine r_iconst (v := 0) dX3_parts_55 (by decide) ?_
      refine r_iret dX3_parts_56 rfl (Nat.le_refl _) ?_
      (try dsimp only [Gs_M])
      rw [prt0_n c_44]
      exact ⟨rfl, rfl⟩
  refine r_aload_n dX3_parts_0 rfl rfl ?_
  refine r_getR (q := 45) dX3_parts_1 (ci := 4) (kf := 0) rfl (Nat.le_of_ble_eq_true rfl) (by decide) (by decide) rfl fl_X3_7 (Or.inl rfl) rfl ?_
  refine r_getI dX3_parts_4 (ci := 9) (kf := 1) rfl (Nat.le_of_ble_eq_true rfl) (by decide) (by decide) rfl fl_X3_20 (Or.inl rfl) ?_
  rw [acC_c]
  refine r_bipush (v := 30) dX3_parts_7 (by decide) ?_
  refine r_icmp_geN (A.2.1) (30) (tgt := 36) dX3_parts_9 (by decide) (by omega) (by omega) (fun c_9 => ?_) (fun c_9 => ?_)
  · (try dsimp only [Gs_M] at c_9)
    rw [acC_n (b := 12) (by omega)]
    exact PW.subL J (by repeat' first | exact True.intro | refine And.intro rfl ?_)
  · (try dsimp only [Gs_M] at c_9)
    refine r_aload_n dX3_parts_12 rfl rfl ?_
    refine r_getR (q := 45) dX3_parts_13 (ci := 4) (kf := 0) rfl (Nat.le_of_ble_eq_true rfl) (by decide) (by decide) rfl fl_X3_7 (Or.inl rfl) rfl ?_
    refine r_getR (q := 46) dX3_parts_16 (ci := 9) (kf := 0) rfl (Nat.le_of_ble_eq_true rfl) (by decide) (by decide) rfl fl_X3_25 (Or.inl rfl) rfl ?_
    refine r_aload_n dX3_parts_19 rfl rfl ?_
    refine r_getR (q := 45) dX3_parts_20 (ci := 4) (kf := 0) rfl (Nat.le_of_ble_eq_true rfl) (by decide) (by decide) rfl fl_X3_7 (Or.inl rfl) rfl ?_
    refine r_dup dX3_parts_23 rfl ?_
    refine r_getI dX3_parts_24 (ci := 9) (kf := 1) rfl (Nat.le_of_ble_eq_true rfl) (by decide) (by decide) rfl fl_X3_20 (Or.inl rfl) ?_
    rw [acC_c]
    refine r_dup_x1 dX3_parts_27 rfl rfl ?_
    refine r_iconst (v := 1) dX3_parts_28 (by decide) ?_
    refine r_iaddN (A.2.1) (1) dX3_parts_29 ?_
    refine r_putI dX3_parts_30 (ci := 9) (kf := 1) rfl (Nat.le_of_ble_eq_true rfl) (by decide) (by decide) rfl fl_X3_20 (Or.inl rfl) rfl rfl rfl ?_
    refine r_bipush (v := 12) dX3_parts_33 (by decide) ?_
    refine r_iast (j := A.2.1) dX3_parts_35 rfl (Nat.le_of_ble_eq_true rfl) rfl (by omega) (by decide) ?_
    rw [acC_b (by omega)]
    exact PW.subL J (by repeat' first | exact True.intro | refine And.intro rfl ?_)
theorem s_pr_4 (g : pG) {M : Nat → Nat → Int32} {A : aT} (hA : A.2.1 ≤ 30) (ko : Nat) (o1 : Int32) (hn : M 52 1 = nI ko) (ho : M 52 2 = o1) (hp : A.2.2 = 0) (x : Int32) : MS g mX3_parts 1 0 0 [.ref 52, .int x] (Gs (acC M A)) (dI (prtK ko o1 4 x A).1 (Gs (acC M (prtK ko o1 4 x A).2))) := s_p3_4 g hA ko o1 hn ho hp x
set_option maxRecDepth 20000 in
set_option maxHeartbeats 1000000 in
theorem s_p3_5 (g : pG) {M : Nat → Nat → Int32} {A : aT} (hA : A.2.1 ≤ 30) (ko : Nat) (o1 : Int32) (hn : M 53 1 = nI ko) (ho : M 53 2 = o1) (hp : A.2.2 = 0) (x : Int32) : MS g mX3_parts 1 0 0 [.ref 53, .int x] (Gs (acC M A)) (dI (prt0 ko o1 x A).1 (Gs (acC M (prt0 ko o1 x A).2))) := by
  refine MS.of pn_X3 (Nat.le_of_ble_eq_true rfl) ?_
  have J : PW g mX3_parts (eN g (Gs (acC M A)).1 1 0 0 (dI (prt0 ko o1 x A).1 (Gs (acC M (prt0 ko o1 x A).2)))) 36 [some (.ref 53), some (.int x)] [] (Gs (acC M (stA 12 A))) 0 0 := by
    refine r_aload_n dX3_parts_36 rfl rfl ?_
    refine r_getI dX3_parts_37 (ci := 7) (kf := 2) rfl (Nat.le_of_ble_eq_true rfl) (by decide) (by decide) rfl fl_X3_17 (Or.inl rfl) ?_
    rw [show ∀ A : aT, (Gs (acC M A)).2.2.2 53 2 = o1 from fun _ => ho]
    refine r_aload_n dX3_parts_40 rfl rfl ?_
    refine r_getI dX3_parts_41 (ci := 7) (kf := 1) rfl (Nat.le_of_ble_eq_true rfl) (by decide) (by decide) rfl fl_X3_13 (Or.inl rfl) ?_
    rw [show ∀ A : aT, (Gs (acC M A)).2.2.2 53 1 = nI ko from fun _ => hn]
    refine r_icmp_ne (tgt := 57) dX3_parts_44 (by decide) (fun c_44 => ?_) (fun c_44 => ?_)
    · (try dsimp only [Gs_M] at c_44)
      refine r_iload_n dX3_parts_57 rfl rfl ?_
      refine r_aload_n dX3_parts_58 rfl rfl ?_
      refine r_getI dX3_parts_59 (ci := 7) (kf := 2) rfl (Nat.le_of_ble_eq_true rfl) (by decide) (by decide) rfl fl_X3_17 (Or.inl rfl) ?_
      rw [show ∀ A : aT, (Gs (acC M A)).2.2.2 53 2 = o1 from fun _ => ho]
      refine r_aload_n dX3_parts_62 rfl rfl ?_
      refine r_getI dX3_parts_63 (ci := 7) (kf := 1) rfl (Nat.le_of_ble_eq_true rfl) (by decide) (by decide) rfl fl_X3_13 (Or.inl rfl) ?_
      rw [show ∀ A : aT, (Gs (acC M A)).2.2.2 53 1 = nI ko from fun _ => hn]
      refine r_isub dX3_parts_66 ?_
      refine r_idiv dX3_parts_67 (fun z => c_44 (i_sub0.mp z)) ?_
      refine r_iret dX3_parts_68 rfl (Nat.le_refl _) ?_
      (try dsimp only [Gs_M])
      rw [prt0_y hp c_44]
      exact ⟨rfl, rfl⟩
    · (try dsimp only [Gs_M] at c_44)
      refine r_aload_n dX3_parts_47 rfl rfl ?_
      refine r_getR (q := 45) dX3_parts_48 (ci := 7) (kf := 0) rfl (Nat.le_of_ble_eq_true rfl) (by decide) (by decide) rfl fl_X3_7 (Or.inl rfl) rfl ?_
      refine r_iconst (v := 1) dX3_parts_51 (by decide) ?_
      refine r_putI dX3_parts_52 (ci := 9) (kf := 2) rfl (Nat.le_of_ble_eq_true rfl) (by decide) (by decide) rfl fl_X3_33 (Or.inl rfl) rfl rfl rfl ?_
      rw [acC_sp]
      refine r_iconst (v := 0) dX3_parts_55 (by decide) ?_
      refine r_iret dX3_parts_56 rfl (Nat.le_refl _) ?_
      (try dsimp only [Gs_M])
      rw [prt0_n c_44]
      exact ⟨rfl, rfl⟩
  refine r_aload_n dX3_parts_0 rfl rfl ?_
  refine r_getR (q := 45) dX3_parts_1 (ci := 7) (kf := 0) rfl (Nat.le_of_ble_eq_true rfl) (by decide) (by decide) rfl fl_X3_7 (Or.inl rfl) rfl ?_
  refine r_getI dX3_parts_4 (ci := 9) (kf := 1) rfl (Nat.le_of_ble_eq_true rfl) (by decide) (by decide) rfl fl_X3_20 (Or.inl rfl) ?_
  rw [acC_c]
  refine r_bipush (v := 30) dX3_parts_7 (by decide) ?_
  refine r_icmp_geN (A.2.1) (30) (tgt := 36) dX3_parts_9 (by decide) (by omega) (by omega) (fun c_9 => ?_) (fun c_9 => ?_)
  · (try dsimp only [Gs_M] at c_9)
    rw [acC_n (b := 12) (by omega)]
    exact PW.subL J (by repeat' first | exact True.intro | refine And.intro rfl ?_)
  · (try dsimp only [Gs_M] at c_9)
    refine r_aload_n dX3_parts_12 rfl rfl ?_
    refine r_getR (q := 45) dX3_parts_13 (ci := 7) (kf := 0) rfl (Nat.le_of_ble_eq_true rfl) (by decide) (by decide) rfl fl_X3_7 (Or.inl rfl) rfl ?_
    refine r_getR (q := 46) dX3_parts_16 (ci := 9) (kf := 0) rfl (Nat.le_of_ble_eq_true rfl) (by decide) (by decide) rfl fl_X3_25 (Or.inl rfl) rfl ?_
    refine r_aload_n dX3_parts_19 rfl rfl ?_
    refine r_getR (q := 45) dX3_parts_20 (ci := 7) (kf := 0) rfl (Nat.le_of_ble_eq_true rfl) (by decide) (by decide) rfl fl_X3_7 (Or.inl rfl) rfl ?_
    refine r_dup dX3_parts_23 rfl ?_
    refine r_getI dX3_parts_24 (ci := 9) (kf := 1) rfl (Nat.le_of_ble_eq_true rfl) (by decide) (by decide) rfl fl_X3_20 (Or.inl rfl) ?_
    rw [acC_c]
    refine r_dup_x1 dX3_parts_27 rfl rfl ?_
    refine r_iconst (v := 1) dX3_parts_28 (by decide) ?_
    refine r_iaddN (A.2.1) (1) dX3_parts_29 ?_
    refine r_putI dX3_parts_30 (ci := 9) (kf := 1) rfl (Nat.le_of_ble_eq_true rfl) (by decide) (by decide) rfl fl_X3_20 (Or.inl rfl) rfl rfl rfl ?_
    refine r_bipush (v := 12) dX3_parts_33 (by decide) ?_
    refine r_iast (j := A.2.1) dX3_parts_35 rfl (Nat.le_of_ble_eq_true rfl) rfl (by omega) (by decide) ?_
    rw [acC_b (by omega)]
    exact PW.subL J (by repeat' first | exact True.intro | refine And.intro rfl ?_)
set_option maxRecDepth 20000 in
set_option maxHeartbeats 1000000 in
theorem s_pr_5 (g : pG) {M : Nat → Nat → Int32} {A : aT} (hA : A.2.1 ≤ 30) (ko : Nat) (o1 : Int32) (hn : M 53 1 = nI ko) (ho : M 53 2 = o1) (hp : A.2.2 = 0) (x : Int32) : MS g mX7_parts 2 0 0 [.ref 53, .int x] (Gs (acC M A)) (dI (prtK ko o1 5 x A).1 (Gs (acC M (prtK ko o1 5 x A).2))) := by
  refine MS.of pn_X7 (Nat.le_of_ble_eq_true rfl) ?_
  have J : PW g mX7_parts (eN g (Gs (acC M A)).1 2 0 0 (dI (prtK ko o1 5 x A).1 (Gs (acC M (prtK ko o1 5 x A).2)))) 36 [some (.ref 53), some (.int x), none] [] (Gs (acC M (stA 61 A))) 0 0 := by
    refine r_aload_n dX7_parts_36 rfl rfl ?_
    refine r_iload_n dX7_parts_37 rfl rfl ?_
    refine r_callSU_dI (ci := 7) dX7_parts_38 (s_p3_5 g (stA_le hA) ko o1 hn ho hp _) mf_X3_parts mi_X3_parts ml_X7_27 sm_X3_X3_parts su_X7_X3 (by decide) rfl rfl (Nat.le_of_ble_eq_true rfl) rfl (by decide) (Nat.le_of_ble_eq_true rfl) ⟨(Nat.le_of_ble_eq_true rfl), (Nat.le_of_ble_eq_true rfl)⟩ ⟨(Nat.le_of_ble_eq_true rfl), (Nat.le_of_ble_eq_true rfl)⟩ ?_
    refine r_istore_n dX7_parts_41 rfl (by decide) ?_
    refine r_aload_n dX7_parts_42 rfl rfl ?_
    refine r_getR (q := 45) dX7_parts_43 (ci := 7) (kf := 0) rfl (Nat.le_of_ble_eq_true rfl) (by decide) (by decide) rfl fl_X7_7 (Or.inr sf_X7_log) rfl ?_
    refine r_getI dX7_parts_46 (ci := 9) (kf := 2) rfl (Nat.le_of_ble_eq_true rfl) (by decide) (by decide) rfl fl_X7_30 (Or.inl rfl) ?_
    rw [acC_p]
    refine r_if_eq (tgt := 54) dX7_parts_49 (by decide) (fun c_49 => ?_) (fun c_49 => ?_)
    · (try dsimp only [Gs_M] at c_49)
      refine r_iload_n dX7_parts_54 rfl rfl ?_
      refine r_aload_n dX7_parts_55 rfl rfl ?_
      refine r_aload_n dX7_parts_56 rfl rfl ?_
      refine r_getI dX7_parts_57 (ci := 7) (kf := 1) rfl (Nat.le_of_ble_eq_true rfl) (by decide) (by decide) rfl fl_X7_34 (Or.inr sf_X7_n) ?_
      rw [show ∀ A : aT, (Gs (acC M A)).2.2.2 53 1 = nI ko from fun _ => hn]
      refine r_callU_dI (ci := 7) dX7_parts_60 (s_bw_5 g (prt0_le (stA_le hA)) ko o1 hn ho _) mf_X3_bows mi_X3_bows se_X7_X7_X3_bows ml_X7_37 sm_X7_X3_bows rfl rfl rfl (Nat.le_of_ble_eq_true rfl) rfl (by decide) (Nat.le_of_ble_eq_true rfl) ⟨(Nat.le_of_ble_eq_true rfl), (Nat.le_of_ble_eq_true rfl)⟩ ⟨(Nat.le_of_ble_eq_true rfl), (Nat.le_of_ble_eq_true rfl)⟩ ?_
      refine r_imul dX7_parts_63 ?_
      refine r_iret dX7_parts_64 rfl (Nat.le_refl _) ?_
      (try dsimp only [Gs_M])
      rw [prtK_5, if_pos c_49]
      exact ⟨rfl, rfl⟩
    · (try dsimp only [Gs_M] at c_49)
      refine r_iconst (v := 0) dX7_parts_52 (by decide) ?_
      refine r_iret dX7_parts_53 rfl (Nat.le_refl _) ?_
      (try dsimp only [Gs_M])
      rw [prtK_5, if_neg c_49]
      exact ⟨rfl, rfl⟩
  refine r_aload_n dX7_parts_0 rfl rfl ?_
  refine r_getR (q := 45) dX7_parts_1 (ci := 7) (kf := 0) rfl (Nat.le_of_ble_eq_true rfl) (by decide) (by decide) rfl fl_X7_7 (Or.inr sf_X7_log) rfl ?_
  refine r_getI dX7_parts_4 (ci := 9) (kf := 1) rfl (Nat.le_of_ble_eq_true rfl) (by decide) (by decide) rfl fl_X7_13 (Or.inl rfl) ?_
  rw [acC_c]
  refine r_bipush (v := 30) dX7_parts_7 (by decide) ?_
  refine r_icmp_geN (A.2.1) (30) (tgt := 36) dX7_parts_9 (by decide) (by omega) (by omega) (fun c_9 => ?_) (fun c_9 => ?_)
  · (try dsimp only [Gs_M] at c_9)
    rw [acC_n (b := 61) (by omega)]
    exact PW.subL J (by repeat' first | exact True.intro | refine And.intro rfl ?_)
  · (try dsimp only [Gs_M] at c_9)
    refine r_aload_n dX7_parts_12 rfl rfl ?_
    refine r_getR (q := 45) dX7_parts_13 (ci := 7) (kf := 0) rfl (Nat.le_of_ble_eq_true rfl) (by decide) (by decide) rfl fl_X7_7 (Or.inr sf_X7_log) rfl ?_
    refine r_getR (q := 46) dX7_parts_16 (ci := 9) (kf := 0) rfl (Nat.le_of_ble_eq_true rfl) (by decide) (by decide) rfl fl_X7_19 (Or.inl rfl) rfl ?_
    refine r_aload_n dX7_parts_19 rfl rfl ?_
    refine r_getR (q := 45) dX7_parts_20 (ci := 7) (kf := 0) rfl (Nat.le_of_ble_eq_true rfl) (by decide) (by decide) rfl fl_X7_7 (Or.inr sf_X7_log) rfl ?_
    refine r_dup dX7_parts_23 rfl ?_
    refine r_getI dX7_parts_24 (ci := 9) (kf := 1) rfl (Nat.le_of_ble_eq_true rfl) (by decide) (by decide) rfl fl_X7_13 (Or.inl rfl) ?_
    rw [acC_c]
    refine r_dup_x1 dX7_parts_27 rfl rfl ?_
    refine r_iconst (v := 1) dX7_parts_28 (by decide) ?_
    refine r_iaddN (A.2.1) (1) dX7_parts_29 ?_
    refine r_putI dX7_parts_30 (ci := 9) (kf := 1) rfl (Nat.le_of_ble_eq_true rfl) (by decide) (by decide) rfl fl_X7_13 (Or.inl rfl) rfl rfl rfl ?_
    refine r_bipush (v := 61) dX7_parts_33 (by decide) ?_
    refine r_iast (j := A.2.1) dX7_parts_35 rfl (Nat.le_of_ble_eq_true rfl) rfl (by omega) (by decide) ?_
    rw [acC_b (by omega)]
    exact PW.subL J (by repeat' first | exact True.intro | refine And.intro rfl ?_)
set_option maxRecDepth 20000 in
set_option maxHeartbeats 1000000 in
theorem s_m3_0 (g : pG) {M : Nat → Nat → Int32} {A : aT} (hA : A.2.1 ≤ 30) (ko : Nat) (o1 : Int32) (hn : M 48 1 = nI ko) (ho : M 48 2 = o1) (x : Int32) : MS g mX3_moves 3 0 0 [.ref 48, .int x] (Gs (acC M A)) (dI (mov0 ko 0 o1 x A).1 (Gs (acC M (mov0 ko 0 o1 x A).2))) := by
  refine MS.of pn_X3 (Nat.le_of_ble_eq_true rfl) ?_
  have J : PW g mX3_moves (eN g (Gs (acC M A)).1 3 0 0 (dI (mov0 ko 0 o1 x A).1 (Gs (acC M (mov0 ko 0 o1 x A).2)))) 36 [some (.ref 48), some (.int x)] [] (Gs (acC M (stA 13 A))) 0 0 := by
    refine r_aload_n dX3_moves_36 rfl rfl ?_
    refine r_iload_n dX3_moves_37 rfl rfl ?_
    refine r_callU_dI (ci := 3) dX3_moves_38 (s_sg_0 g (stA_le hA) ko o1 hn ho _) mf_X3_sings mi_X3_sings se_X3_X3_X3_sings ml_X3_37 sm_X3_X3_sings rfl rfl rfl (Nat.le_of_ble_eq_true rfl) rfl (by decide) (Nat.le_of_ble_eq_true rfl) ⟨(Nat.le_of_ble_eq_true rfl), (Nat.le_of_ble_eq_true rfl)⟩ ⟨(Nat.le_of_ble_eq_true rfl), (Nat.le_of_ble_eq_true rfl)⟩ ?_
    refine r_sipush (v := 220) dX3_moves_41 (by decide) ?_
    refine r_ixor dX3_moves_44 ?_
    refine r_iret dX3_moves_45 rfl (Nat.le_refl _) ?_
    (try dsimp only [Gs_M])
    exact ⟨rfl, rfl⟩
  refine r_aload_n dX3_moves_0 rfl rfl ?_
  refine r_getR (q := 45) dX3_moves_1 (ci := 3) (kf := 0) rfl (Nat.le_of_ble_eq_true rfl) (by decide) (by decide) rfl fl_X3_7 (Or.inl rfl) rfl ?_
  refine r_getI dX3_moves_4 (ci := 9) (kf := 1) rfl (Nat.le_of_ble_eq_true rfl) (by decide) (by decide) rfl fl_X3_20 (Or.inl rfl) ?_
  rw [acC_c]
  refine r_bipush (v := 30) dX3_moves_7 (by decide) ?_
  refine r_icmp_geN (A.2.1) (30) (tgt := 36) dX3_moves_9 (by decide) (by omega) (by omega) (fun c_9 => ?_) (fun c_9 => ?_)
  · (try dsimp only [Gs_M] at c_9)
    rw [acC_n (b := 13) (by omega)]
    exact PW.subL J (by repeat' first | exact True.intro | refine And.intro rfl ?_)
  · (try dsimp only [Gs_M] at c_9)
    refine r_aload_n dX3_moves_12 rfl rfl ?_
    refine r_getR (q := 45) dX3_moves_13 (ci := 3) (kf := 0) rfl (Nat.le_of_ble_eq_true rfl) (by decide) (by decide) rfl fl_X3_7 (Or.inl rfl) rfl ?_
    refine r_getR (q := 46) dX3_moves_16 (ci := 9) (kf := 0) rfl (Nat.le_of_ble_eq_true rfl) (by decide) (by decide) rfl fl_X3_25 (Or.inl rfl) rfl ?_
    refine r_aload_n dX3_moves_19 rfl rfl ?_
    refine r_getR (q := 45) dX3_moves_20 (ci := 3) (kf := 0) rfl (Nat.le_of_ble_eq_true rfl) (by decide) (by decide) rfl fl_X3_7 (Or.inl rfl) rfl ?_
    refine r_dup dX3_moves_23 rfl ?_
    refine r_getI dX3_moves_24 (ci := 9) (kf := 1) rfl (Nat.le_of_ble_eq_true rfl) (by decide) (by decide) rfl fl_X3_20 (Or.inl rfl) ?_
    rw [acC_c]
    refine r_dup_x1 dX3_moves_27 rfl rfl ?_
    refine r_iconst (v := 1) dX3_moves_28 (by decide) ?_
    refine r_iaddN (A.2.1) (1) dX3_moves_29 ?_
    refine r_putI dX3_moves_30 (ci := 9) (kf := 1) rfl (Nat.le_of_ble_eq_true rfl) (by decide) (by decide) rfl fl_X3_20 (Or.inl rfl) rfl rfl rfl ?_
    refine r_bipush (v := 13) dX3_moves_33 (by decide) ?_
    refine r_iast (j := A.2.1) dX3_moves_35 rfl (Nat.le_of_ble_eq_true rfl) rfl (by omega) (by decide) ?_
    rw [acC_b (by omega)]
    exact PW.subL J (by repeat' first | exact True.intro | refine And.intro rfl ?_)
theorem s_mv_0 (g : pG) {M : Nat → Nat → Int32} {A : aT} (hA : A.2.1 ≤ 30) (ko : Nat) (o1 : Int32) (hn : M 48 1 = nI ko) (ho : M 48 2 = o1) (hp : A.2.2 = 0) (x : Int32) : MS g mX3_moves 3 0 0 [.ref 48, .int x] (Gs (acC M A)) (dI (movK ko 0 o1 0 x A).1 (Gs (acC M (movK ko 0 o1 0 x A).2))) := s_m3_0 g hA ko o1 hn ho x
set_option maxRecDepth 20000 in
set_option maxHeartbeats 1000000 in
theorem s_m3_1 (g : pG) {M : Nat → Nat → Int32} {A : aT} (hA : A.2.1 ≤ 30) (ko : Nat) (o1 : Int32) (hn : M 49 1 = nI ko) (ho : M 49 2 = o1) (x : Int32) : MS g mX3_moves 4 0 0 [.ref 49, .int x] (Gs (acC M A)) (dI (mov0 ko 1 o1 x A).1 (Gs (acC M (mov0 ko 1 o1 x A).2))) := by
  refine MS.of pn_X3 (Nat.le_of_ble_eq_true rfl) ?_
  have J : PW g mX3_moves (eN g (Gs (acC M A)).1 4 0 0 (dI (mov0 ko 1 o1 x A).1 (Gs (acC M (mov0 ko 1 o1 x A).2)))) 36 [some (.ref 49), some (.int x)] [] (Gs (acC M (stA 13 A))) 0 0 := by
    refine r_aload_n dX3_moves_36 rfl rfl ?_
    refine r_iload_n dX3_moves_37 rfl rfl ?_
    refine r_callO_dI (ci := 1) dX3_moves_38 (s_sg_1 g (stA_le hA) ko o1 hn ho _) mf_X1_sings mi_X1_sings se_X1_X3_X1_sings ml_X3_37 sm_X3_X3_sings mi_X3_sings cd_X3_sings ⟨by decide, by decide⟩ rfl rfl rfl (Nat.le_of_ble_eq_true rfl) rfl (by decide) (Nat.le_of_ble_eq_true rfl) ⟨(Nat.le_of_ble_eq_true rfl), (Nat.le_of_ble_eq_true rfl)⟩ ⟨(Nat.le_of_ble_eq_true rfl), (Nat.le_of_ble_eq_true rfl)⟩ ?_
    refine r_sipush (v := 220) dX3_moves_41 (by decide) ?_
    refine r_ixor dX3_moves_44 ?_
    refine r_iret dX3_moves_45 rfl (Nat.le_refl _) ?_
    (try dsimp only [Gs_M])
    exact ⟨rfl, rfl⟩
  refine r_aload_n dX3_moves_0 rfl rfl ?_
  refine r_getR (q := 45) dX3_moves_1 (ci := 1) (kf := 0) rfl (Nat.le_of_ble_eq_true rfl) (by decide) (by decide) rfl fl_X3_7 (Or.inl rfl) rfl ?_
  refine r_getI dX3_moves_4 (ci := 9) (kf := 1) rfl (Nat.le_of_ble_eq_true rfl) (by decide) (by decide) rfl fl_X3_20 (Or.inl rfl) ?_
  rw [acC_c]
  refine r_bipush (v := 30) dX3_moves_7 (by decide) ?_
  refine r_icmp_geN (A.2.1) (30) (tgt := 36) dX3_moves_9 (by decide) (by omega) (by omega) (fun c_9 => ?_) (fun c_9 => ?_)
  · (try dsimp only [Gs_M] at c_9)
    rw [acC_n (b := 13) (by omega)]
    exact PW.subL J (by repeat' first | exact True.intro | refine And.intro rfl ?_)
  · (try dsimp only [Gs_M] at c_9)
    refine r_aload_n dX3_moves_12 rfl rfl ?_
    refine r_getR (q := 45) dX3_moves_13 (ci := 1) (kf := 0) rfl (Nat.le_of_ble_eq_true rfl) (by decide) (by decide) rfl fl_X3_7 (Or.inl rfl) rfl ?_
    refine r_getR (q := 46) dX3_moves_16 (ci := 9) (kf := 0) rfl (Nat.le_of_ble_eq_true rfl) (by decide) (by decide) rfl fl_X3_25 (Or.inl rfl) rfl ?_
    refine r_aload_n dX3_moves_19 rfl rfl ?_
    refine r_getR (q := 45) dX3_moves_20 (ci := 1) (kf := 0) rfl (Nat.le_of_ble_eq_true rfl) (by decide) (by decide) rfl fl_X3_7 (Or.inl rfl) rfl ?_
    refine r_dup dX3_moves_23 rfl ?_
    refine r_getI dX3_moves_24 (ci := 9) (kf := 1) rfl (Nat.le_of_ble_eq_true rfl) (by decide) (by decide) rfl fl_X3_20 (Or.inl rfl) ?_
    rw [acC_c]
    refine r_dup_x1 dX3_moves_27 rfl rfl ?_
    refine r_iconst (v := 1) dX3_moves_28 (by decide) ?_
    refine r_iaddN (A.2.1) (1) dX3_moves_29 ?_
    refine r_putI dX3_moves_30 (ci := 9) (kf := 1) rfl (Nat.le_of_ble_eq_true rfl) (by decide) (by decide) rfl fl_X3_20 (Or.inl rfl) rfl rfl rfl ?_
    refine r_bipush (v := 13) dX3_moves_33 (by decide) ?_
    refine r_iast (j := A.2.1) dX3_moves_35 rfl (Nat.le_of_ble_eq_true rfl) rfl (by omega) (by decide) ?_
    rw [acC_b (by omega)]
    exact PW.subL J (by repeat' first | exact True.intro | refine And.intro rfl ?_)
theorem s_mv_1 (g : pG) {M : Nat → Nat → Int32} {A : aT} (hA : A.2.1 ≤ 30) (ko : Nat) (o1 : Int32) (hn : M 49 1 = nI ko) (ho : M 49 2 = o1) (hp : A.2.2 = 0) (x : Int32) : MS g mX3_moves 4 0 0 [.ref 49, .int x] (Gs (acC M A)) (dI (movK ko 1 o1 1 x A).1 (Gs (acC M (movK ko 1 o1 1 x A).2))) := s_m3_1 g hA ko o1 hn ho x
set_option maxRecDepth 20000 in
set_option maxHeartbeats 1000000 in
theorem s_m3_2 (g : pG) {M : Nat → Nat → Int32} {A : aT} (hA : A.2.1 ≤ 30) (ko : Nat) (o1 : Int32) (hn : M 50 1 = nI ko) (ho : M 50 2 = o1) (x : Int32) : MS g mX3_moves 4 0 0 [.ref 50, .int x] (Gs (acC M A)) (dI (mov0 ko 2 o1 x A).1 (Gs (acC M (mov0 ko 2 o1 x A).2))) := by
  refine MS.of pn_X3 (Nat.le_of_ble_eq_true rfl) ?_
  have J : PW g mX3_moves (eN g (Gs (acC M A)).1 4 0 0 (dI (mov0 ko 2 o1 x A).1 (Gs (acC M (mov0 ko 2 o1 x A).2)))) 36 [some (.ref 50), some (.int x)] [] (Gs (acC M (stA 13 A))) 0 0 := by
    refine r_aload_n dX3_moves_36 rfl rfl ?_
    refine r_iload_n dX3_moves_37 rfl rfl ?_
    refine r_callU_dI (ci := 2) dX3_moves_38 (s_sg_2 g (stA_le hA) ko o1 hn ho _) mf_X3_sings mi_X3_sings se_X2_X3_X3_sings ml_X3_37 sm_X3_X3_sings rfl rfl rfl (Nat.le_of_ble_eq_true rfl) rfl (by decide) (Nat.le_of_ble_eq_true rfl) ⟨(Nat.le_of_ble_eq_true rfl), (Nat.le_of_ble_eq_true rfl)⟩ ⟨(Nat.le_of_ble_eq_true rfl), (Nat.le_of_ble_eq_true rfl)⟩ ?_
    refine r_sipush (v := 220) dX3_moves_41 (by decide) ?_
    refine r_ixor dX3_moves_44 ?_
    refine r_iret dX3_moves_45 rfl (Nat.le_refl _) ?_
    (try dsimp only [Gs_M])
    exact ⟨rfl, rfl⟩
  refine r_aload_n dX3_moves_0 rfl rfl ?_
  refine r_getR (q := 45) dX3_moves_1 (ci := 2) (kf := 0) rfl (Nat.le_of_ble_eq_true rfl) (by decide) (by decide) rfl fl_X3_7 (Or.inl rfl) rfl ?_
  refine r_getI dX3_moves_4 (ci := 9) (kf := 1) rfl (Nat.le_of_ble_eq_true rfl) (by decide) (by decide) rfl fl_X3_20 (Or.inl rfl) ?_
  rw [acC_c]
  refine r_bipush (v := 30) dX3_moves_7 (by decide) ?_
  refine r_icmp_geN (A.2.1) (30) (tgt := 36) dX3_moves_9 (by decide) (by omega) (by omega) (fun c_9 => ?_) (fun c_9 => ?_)
  · (try dsimp only [Gs_M] at c_9)
    rw [acC_n (b := 13) (by omega)]
    exact PW.subL J (by repeat' first | exact True.intro | refine And.intro rfl ?_)
  · (try dsimp only [Gs_M] at c_9)
    refine r_aload_n dX3_moves_12 rfl rfl ?_
    refine r_getR (q := 45) dX3_moves_13 (ci := 2) (kf := 0) rfl (Nat.le_of_ble_eq_true rfl) (by decide) (by decide) rfl fl_X3_7 (Or.inl rfl) rfl ?_
    refine r_getR (q := 46) dX3_moves_16 (ci := 9) (kf := 0) rfl (Nat.le_of_ble_eq_true rfl) (by decide) (by decide) rfl fl_X3_25 (Or.inl rfl) rfl ?_
    refine r_aload_n dX3_moves_19 rfl rfl ?_
    refine r_getR (q := 45) dX3_moves_20 (ci := 2) (kf := 0) rfl (Nat.le_of_ble_eq_true rfl) (by decide) (by decide) rfl fl_X3_7 (Or.inl rfl) rfl ?_
    refine r_dup dX3_moves_23 rfl ?_
    refine r_getI dX3_moves_24 (ci := 9) (kf := 1) rfl (Nat.le_of_ble_eq_true rfl) (by decide) (by decide) rfl fl_X3_20 (Or.inl rfl) ?_
    rw [acC_c]
    refine r_dup_x1 dX3_moves_27 rfl rfl ?_
    refine r_iconst (v := 1) dX3_moves_28 (by decide) ?_
    refine r_iaddN (A.2.1) (1) dX3_moves_29 ?_
    refine r_putI dX3_moves_30 (ci := 9) (kf := 1) rfl (Nat.le_of_ble_eq_true rfl) (by decide) (by decide) rfl fl_X3_20 (Or.inl rfl) rfl rfl rfl ?_
    refine r_bipush (v := 13) dX3_moves_33 (by decide) ?_
    refine r_iast (j := A.2.1) dX3_moves_35 rfl (Nat.le_of_ble_eq_true rfl) rfl (by omega) (by decide) ?_
    rw [acC_b (by omega)]
    exact PW.subL J (by repeat' first | exact True.intro | refine And.intro rfl ?_)
set_option maxRecDepth 20000 in
set_option maxHeartbeats 1000000 in
theorem s_mv_2 (g : pG) {M : Nat → Nat → Int32} {A : aT} (hA : A.2.1 ≤ 30) (ko : Nat) (o1 : Int32) (hn : M 50 1 = nI ko) (ho : M 50 2 = o1) (hp : A.2.2 = 0) (x : Int32) : MS g mX2_moves 5 0 0 [.ref 50, .int x] (Gs (acC M A)) (dI (movK ko 2 o1 2 x A).1 (Gs (acC M (movK ko 2 o1 2 x A).2))) := by
  refine MS.of pn_X2 (Nat.le_of_ble_eq_true rfl) ?_
  have J : PW g mX2_moves (eN g (Gs (acC M A)).1 5 0 0 (dI (movK ko 2 o1 2 x A).1 (Gs (acC M (movK ko 2 o1 2 x A).2)))) 36 [some (.ref 50), some (.int x)] [] (Gs (acC M (stA 31 A))) 0 0 := by
    refine r_aload_n dX2_moves_36 rfl rfl ?_
    refine r_iload_n dX2_moves_37 rfl rfl ?_
    refine r_callSU_dI (ci := 2) dX2_moves_38 (s_m3_2 g (stA_le hA) ko o1 hn ho _) mf_X3_moves mi_X3_moves ml_X2_27 sm_X3_X3_moves su_X2_X3 (by decide) rfl rfl (Nat.le_of_ble_eq_true rfl) rfl (by decide) (Nat.le_of_ble_eq_true rfl) ⟨(Nat.le_of_ble_eq_true rfl), (Nat.le_of_ble_eq_true rfl)⟩ ⟨(Nat.le_of_ble_eq_true rfl), (Nat.le_of_ble_eq_true rfl)⟩ ?_
    refine r_aload_n dX2_moves_41 rfl rfl ?_
    refine r_aload_n dX2_moves_42 rfl rfl ?_
    refine r_getI dX2_moves_43 (ci := 2) (kf := 1) rfl (Nat.le_of_ble_eq_true rfl) (by decide) (by decide) rfl fl_X2_30 (Or.inr sf_X2_n) ?_
    rw [show ∀ A : aT, (Gs (acC M A)).2.2.2 50 1 = nI ko from fun _ => hn]
    refine r_callU_dI (ci := 2) dX2_moves_46 (s_pr_2 g (mov0_le (stA_le hA)) ko o1 hn ho (mov0_p.trans hp) _) mf_X3_parts mi_X3_parts se_X2_X2_X3_parts ml_X2_33 sm_X2_X3_parts rfl rfl rfl (Nat.le_of_ble_eq_true rfl) rfl (by decide) (Nat.le_of_ble_eq_true rfl) ⟨(Nat.le_of_ble_eq_true rfl), (Nat.le_of_ble_eq_true rfl)⟩ ⟨(Nat.le_of_ble_eq_true rfl), (Nat.le_of_ble_eq_true rfl)⟩ ?_
    refine r_iadd dX2_moves_49 ?_
    refine r_iret dX2_moves_50 rfl (Nat.le_refl _) ?_
    (try dsimp only [Gs_M])
    exact ⟨rfl, rfl⟩
  refine r_aload_n dX2_moves_0 rfl rfl ?_
  refine r_getR (q := 45) dX2_moves_1 (ci := 2) (kf := 0) rfl (Nat.le_of_ble_eq_true rfl) (by decide) (by decide) rfl fl_X2_7 (Or.inr sf_X2_log) rfl ?_
  refine r_getI dX2_moves_4 (ci := 9) (kf := 1) rfl (Nat.le_of_ble_eq_true rfl) (by decide) (by decide) rfl fl_X2_13 (Or.inl rfl) ?_
  rw [acC_c]
  refine r_bipush (v := 30) dX2_moves_7 (by decide) ?_
  refine r_icmp_geN (A.2.1) (30) (tgt := 36) dX2_moves_9 (by decide) (by omega) (by omega) (fun c_9 => ?_) (fun c_9 => ?_)
  · (try dsimp only [Gs_M] at c_9)
    rw [acC_n (b := 31) (by omega)]
    exact PW.subL J (by repeat' first | exact True.intro | refine And.intro rfl ?_)
  · (try dsimp only [Gs_M] at c_9)
    refine r_aload_n dX2_moves_12 rfl rfl ?_
    refine r_getR (q := 45) dX2_moves_13 (ci := 2) (kf := 0) rfl (Nat.le_of_ble_eq_true rfl) (by decide) (by decide) rfl fl_X2_7 (Or.inr sf_X2_log) rfl ?_
    refine r_getR (q := 46) dX2_moves_16 (ci := 9) (kf := 0) rfl (Nat.le_of_ble_eq_true rfl) (by decide) (by decide) rfl fl_X2_19 (Or.inl rfl) rfl ?_
    refine r_aload_n dX2_moves_19 rfl rfl ?_
    refine r_getR (q := 45) dX2_moves_20 (ci := 2) (kf := 0) rfl (Nat.le_of_ble_eq_true rfl) (by decide) (by decide) rfl fl_X2_7 (Or.inr sf_X2_log) rfl ?_
    refine r_dup dX2_moves_23 rfl ?_
    refine r_getI dX2_moves_24 (ci := 9) (kf := 1) rfl (Nat.le_of_ble_eq_true rfl) (by decide) (by decide) rfl fl_X2_13 (Or.inl rfl) ?_
    rw [acC_c]
    refine r_dup_x1 dX2_moves_27 rfl rfl ?_
    refine r_iconst (v := 1) dX2_moves_28 (by decide) ?_
    refine r_iaddN (A.2.1) (1) dX2_moves_29 ?_
    refine r_putI dX2_moves_30 (ci := 9) (kf := 1) rfl (Nat.le_of_ble_eq_true rfl) (by decide) (by decide) rfl fl_X2_13 (Or.inl rfl) rfl rfl rfl ?_
    refine r_bipush (v := 31) dX2_moves_33 (by decide) ?_
    refine r_iast (j := A.2.1) dX2_moves_35 rfl (Nat.le_of_ble_eq_true rfl) rfl (by omega) (by decide) ?_
    rw [acC_b (by omega)]
    exact PW.subL J (by repeat' first | exact True.intro | refine And.intro rfl ?_)
set_option maxRecDepth 20000 in
set_option maxHeartbeats 1000000 in
theorem s_m3_3 (g : pG) {M : Nat → Nat → Int32} {A : aT} (hA : A.2.1 ≤ 30) (ko : Nat) (o1 : Int32) (hn : M 51 1 = nI ko) (ho : M 51 2 = o1) (x : Int32) : MS g mX3_moves 5 0 0 [.ref 51, .int x] (Gs (acC M A)) (dI (mov0 ko 3 o1 x A).1 (Gs (acC M (mov0 ko 3 o1 x A).2))) := by
  refine MS.of pn_X3 (Nat.le_of_ble_eq_true rfl) ?_
  have J : PW g mX3_moves (eN g (Gs (acC M A)).1 5 0 0 (dI (mov0 ko 3 o1 x A).1 (Gs (acC M (mov0 ko 3 o1 x A).2)))) 36 [some (.ref 51), some (.int x)] [] (Gs (acC M (stA 13 A))) 0 0 := by
    refine r_aload_n dX3_moves_36 rfl rfl ?_
    refine r_iload_n dX3_moves_37 rfl rfl ?_
    refine r_callO_dI (ci := 5) dX3_moves_38 (s_sg_3 g (stA_le hA) ko o1 hn ho _) mf_X1_sings mi_X1_sings se_X5_X3_X1_sings ml_X3_37 sm_X3_X3_sings mi_X3_sings cd_X3_sings ⟨by decide, by decide⟩ rfl rfl rfl (Nat.le_of_ble_eq_true rfl) rfl (by decide) (Nat.le_of_ble_eq_true rfl) ⟨(Nat.le_of_ble_eq_true rfl), (Nat.le_of_ble_eq_true rfl)⟩ ⟨(Nat.le_of_ble_eq_true rfl), (Nat.le_of_ble_eq_true rfl)⟩ ?_
    refine r_sipush (v := 220) dX3_moves_41 (by decide) ?_
    refine r_ixor dX3_moves_44 ?_
    refine r_iret dX3_moves_45 rfl (Nat.le_refl _) ?_
    (try dsimp only [Gs_M])
    exact ⟨rfl, rfl⟩
  refine r_aload_n dX3_moves_0 rfl rfl ?_
  refine r_getR (q := 45) dX3_moves_1 (ci := 5) (kf := 0) rfl (Nat.le_of_ble_eq_true rfl) (by decide) (by decide) rfl fl_X3_7 (Or.inl rfl) rfl ?_
  refine r_getI dX3_moves_4 (ci := 9) (kf := 1) rfl (Nat.le_of_ble_eq_true rfl) (by decide) (by decide) rfl fl_X3_20 (Or.inl rfl) ?_
  rw [acC_c]
  refine r_bipush (v := 30) dX3_moves_7 (by decide) ?_
  refine r_icmp_geN (A.2.1) (30) (tgt := 36) dX3_moves_9 (by decide) (by omega) (by omega) (fun c_9 => ?_) (fun c_9 => ?_)
  · (try dsimp only [Gs_M] at c_9)
    rw [acC_n (b := 13) (by omega)]
    exact PW.subL J (by repeat' first | exact True.intro | refine And.intro rfl ?_)
  · (try dsimp only [Gs_M] at c_9)
    refine r_aload_n dX3_moves_12 rfl rfl ?_
    refine r_getR (q := 45) dX3_moves_13 (ci := 5) (kf := 0) rfl (Nat.le_of_ble_eq_true rfl) (by decide) (by decide) rfl fl_X3_7 (Or.inl rfl) rfl ?_
    refine r_getR (q := 46) dX3_moves_16 (ci := 9) (kf := 0) rfl (Nat.le_of_ble_eq_true rfl) (by decide) (by decide) rfl fl_X3_25 (Or.inl rfl) rfl ?_
    refine r_aload_n dX3_moves_19 rfl rfl ?_
    refine r_getR (q := 45) dX3_moves_20 (ci := 5) (kf := 0) rfl (Nat.le_of_ble_eq_true rfl) (by decide) (by decide) rfl fl_X3_7 (Or.inl rfl) rfl ?_
    refine r_dup dX3_moves_23 rfl ?_
    refine r_getI dX3_moves_24 (ci := 9) (kf := 1) rfl (Nat.le_of_ble_eq_true rfl) (by decide) (by decide) rfl fl_X3_20 (Or.inl rfl) ?_
    rw [acC_c]
    refine r_dup_x1 dX3_moves_27 rfl rfl ?_
    refine r_iconst (v := 1) dX3_moves_28 (by decide) ?_
    refine r_iaddN (A.2.1) (1) dX3_moves_29 ?_
    refine r_putI dX3_moves_30 (ci := 9) (kf := 1) rfl (Nat.le_of_ble_eq_true rfl) (by decide) (by decide) rfl fl_X3_20 (Or.inl rfl) rfl rfl rfl ?_
    refine r_bipush (v := 13) dX3_moves_33 (by decide) ?_
    refine r_iast (j := A.2.1) dX3_moves_35 rfl (Nat.le_of_ble_eq_true rfl) rfl (by omega) (by decide) ?_
    rw [acC_b (by omega)]
    exact PW.subL J (by repeat' first | exact True.intro | refine And.intro rfl ?_)
theorem s_mv_3 (g : pG) {M : Nat → Nat → Int32} {A : aT} (hA : A.2.1 ≤ 30) (ko : Nat) (o1 : Int32) (hn : M 51 1 = nI ko) (ho : M 51 2 = o1) (hp : A.2.2 = 0) (x : Int32) : MS g mX3_moves 5 0 0 [.ref 51, .int x] (Gs (acC M A)) (dI (movK ko 3 o1 3 x A).1 (Gs (acC M (movK ko 3 o1 3 x A).2))) := s_m3_3 g hA ko o1 hn ho x
set_option maxRecDepth 20000 in
set_option maxHeartbeats 1000000 in
theorem s_m3_4 (g : pG) {M : Nat → Nat → Int32} {A : aT} (hA : A.2.1 ≤ 30) (ko : Nat) (o1 : Int32) (hn : M 52 1 = nI ko) (ho : M 52 2 = o1) (x : Int32) : MS g mX3_moves 6 0 0 [.ref 52, .int x] (Gs (acC M A)) (dI (mov0 ko 4 o1 x A).1 (Gs (acC M (mov0 ko 4 o1 x A).2))) := by
  refine MS.of pn_X3 (Nat.le_of_ble_eq_true rfl) ?_
  have J : PW g mX3_moves (eN g (Gs (acC M A)).1 6 0 0 (dI (mov0 ko 4 o1 x A).1 (Gs (acC M (mov0 ko 4 o1 x A).2)))) 36 [some (.ref 52), some (.int x)] [] (Gs (acC M (stA 13 A))) 0 0 := by
    refine r_aload_n dX3_moves_36 rfl rfl ?_
    refine r_iload_n dX3_moves_37 rfl rfl ?_
    refine r_callO_dI (ci := 4) dX3_moves_38 (s_sg_4 g (stA_le hA) ko o1 hn ho _) mf_X4_sings mi_X4_sings se_X4_X3_X4_sings ml_X3_37 sm_X3_X3_sings mi_X3_sings cd_X3_sings ⟨by decide, by decide⟩ rfl rfl rfl (Nat.le_of_ble_eq_true rfl) rfl (by decide) (Nat.le_of_ble_eq_true rfl) ⟨(Nat.le_of_ble_eq_true rfl), (Nat.le_of_ble_eq_true rfl)⟩ ⟨(Nat.le_of_ble_eq_true rfl), (Nat.le_of_ble_eq_true rfl)⟩ ?_
    refine r_sipush (v := 220) dX3_moves_41 (by decide) ?_
    refine r_ixor dX3_moves_44 ?_
    refine r_iret dX3_moves_45 rfl (Nat.le_refl _) ?_
    (try dsimp only [Gs_M])
    exact ⟨rfl, rfl⟩
  refine r_aload_n dX3_moves_0 rfl rfl ?_
  refine r_getR (q := 45) dX3_moves_1 (ci := 4) (kf := 0) rfl (Nat.le_of_ble_eq_true rfl) (by decide) (by decide) rfl fl_X3_7 (Or.inl rfl) rfl ?_
  refine r_getI dX3_moves_4 (ci := 9) (kf := 1) rfl (Nat.le_of_ble_eq_true rfl) (by decide) (by decide) rfl fl_X3_20 (Or.inl rfl) ?_
  rw [acC_c]
  refine r_bipush (v := 30) dX3_moves_7 (by decide) ?_
  refine r_icmp_geN (A.2.1) (30) (tgt := 36) dX3_moves_9 (by decide) (by omega) (by omega) (fun c_9 => ?_) (fun c_9 => ?_)
  · (try dsimp only [Gs_M] at c_9)
    rw [acC_n (b := 13) (by omega)]
    exact PW.subL J (by repeat' first | exact True.intro | refine And.intro rfl ?_)
  · (try dsimp only [Gs_M] at c_9)
    refine r_aload_n dX3_moves_12 rfl rfl ?_
    refine r_getR (q := 45) dX3_moves_13 (ci := 4) (kf := 0) rfl (Nat.le_of_ble_eq_true rfl) (by decide) (by decide) rfl fl_X3_7 (Or.inl rfl) rfl ?_
    refine r_getR (q := 46) dX3_moves_16 (ci := 9) (kf := 0) rfl (Nat.le_of_ble_eq_true rfl) (by decide) (by decide) rfl fl_X3_25 (Or.inl rfl) rfl ?_
    refine r_aload_n dX3_moves_19 rfl rfl ?_
    refine r_getR (q := 45) dX3_moves_20 (ci := 4) (kf := 0) rfl (Nat.le_of_ble_eq_true rfl) (by decide) (by decide) rfl fl_X3_7 (Or.inl rfl) rfl ?_
    refine r_dup dX3_moves_23 rfl ?_
    refine r_getI dX3_moves_24 (ci := 9) (kf := 1) rfl (Nat.le_of_ble_eq_true rfl) (by decide) (by decide) rfl fl_X3_20 (Or.inl rfl) ?_
    rw [acC_c]
    refine r_dup_x1 dX3_moves_27 rfl rfl ?_
    refine r_iconst (v := 1) dX3_moves_28 (by decide) ?_
    refine r_iaddN (A.2.1) (1) dX3_moves_29 ?_
    refine r_putI dX3_moves_30 (ci := 9) (kf := 1) rfl (Nat.le_of_ble_eq_true rfl) (by decide) (by decide) rfl fl_X3_20 (Or.inl rfl) rfl rfl rfl ?_
    refine r_bipush (v := 13) dX3_moves_33 (by decide) ?_
    refine r_iast (j := A.2.1) dX3_moves_35 rfl (Nat.le_of_ble_eq_true rfl) rfl (by omega) (by decide) ?_
    rw [acC_b (by omega)]
    exact PW.subL J (by repeat' first | exact True.intro | refine And.intro rfl ?_)
set_option maxRecDepth 20000 in
set_option maxHeartbeats 1000000 in
theorem s_mv_4 (g : pG) {M : Nat → Nat → Int32} {A : aT} (hA : A.2.1 ≤ 30) (ko : Nat) (o1 : Int32) (hn : M 52 1 = nI ko) (ho : M 52 2 = o1) (hp : A.2.2 = 0) (x : Int32) : MS g mX2_moves 7 0 0 [.ref 52, .int x] (Gs (acC M A)) (dI (movK ko 4 o1 4 x A).1 (Gs (acC M (movK ko 4 o1 4 x A).2))) := by
  refine MS.of pn_X2 (Nat.le_of_ble_eq_true rfl) ?_
  have J : PW g mX2_moves (eN g (Gs (acC M A)).1 7 0 0 (dI (movK ko 4 o1 4 x A).1 (Gs (acC M (movK ko 4 o1 4 x A).2)))) 36 [some (.ref 52), some (.int x)] [] (Gs (acC M (stA 31 A))) 0 0 := by
    refine r_aload_n dX2_moves_36 rfl rfl ?_
    refine r_iload_n dX2_moves_37 rfl rfl ?_
    refine r_callSU_dI (ci := 4) dX2_moves_38 (s_m3_4 g (stA_le hA) ko o1 hn ho _) mf_X3_moves mi_X3_moves ml_X2_27 sm_X3_X3_moves su_X2_X3 (by decide) rfl rfl (Nat.le_of_ble_eq_true rfl) rfl (by decide) (Nat.le_of_ble_eq_true rfl) ⟨(Nat.le_of_ble_eq_true rfl), (Nat.le_of_ble_eq_true rfl)⟩ ⟨(Nat.le_of_ble_eq_true rfl), (Nat.le_of_ble_eq_true rfl)⟩ ?_
    refine r_aload_n dX2_moves_41 rfl rfl ?_
    refine r_aload_n dX2_moves_42 rfl rfl ?_
    refine r_getI dX2_moves_43 (ci := 4) (kf := 1) rfl (Nat.le_of_ble_eq_true rfl) (by decide) (by decide) rfl fl_X2_30 (Or.inr sf_X2_n) ?_
    rw [show ∀ A : aT, (Gs (acC M A)).2.2.2 52 1 = nI ko from fun _ => hn]
    refine r_callU_dI (ci := 4) dX2_moves_46 (s_pr_4 g (mov0_le (stA_le hA)) ko o1 hn ho (mov0_p.trans hp) _) mf_X3_parts mi_X3_parts se_X4_X2_X3_parts ml_X2_33 sm_X2_X3_parts rfl rfl rfl (Nat.le_of_ble_eq_true rfl) rfl (by decide) (Nat.le_of_ble_eq_true rfl) ⟨(Nat.le_of_ble_eq_true rfl), (Nat.le_of_ble_eq_true rfl)⟩ ⟨(Nat.le_of_ble_eq_true rfl), (Nat.le_of_ble_eq_true rfl)⟩ ?_
    refine r_iadd dX2_moves_49 ?_
    refine r_iret dX2_moves_50 rfl (Nat.le_refl _) ?_
    (try dsimp only [Gs_M])
    exact ⟨rfl, rfl⟩
  refine r_aload_n dX2_moves_0 rfl rfl ?_
  refine r_getR (q := 45) dX2_moves_1 (ci := 4) (kf := 0) rfl (Nat.le_of_ble_eq_true rfl) (by decide) (by decide) rfl fl_X2_7 (Or.inr sf_X2_log) rfl ?_
  refine r_getI dX2_moves_4 (ci := 9) (kf := 1) rfl (Nat.le_of_ble_eq_true rfl) (by decide) (by decide) rfl fl_X2_13 (Or.inl rfl) ?_
  rw [acC_c]
  refine r_bipush (v := 30) dX2_moves_7 (by decide) ?_
  refine r_icmp_geN (A.2.1) (30) (tgt := 36) dX2_moves_9 (by decide) (by omega) (by omega) (fun c_9 => ?_) (fun c_9 => ?_)
  · (try dsimp only [Gs_M] at c_9)
    rw [acC_n (b := 31) (by omega)]
    exact PW.subL J (by repeat' first | exact True.intro | refine And.intro rfl ?_)
  · (try dsimp only [Gs_M] at c_9)
    refine r_aload_n dX2_moves_12 rfl rfl ?_
    refine r_getR (q := 45) dX2_moves_13 (ci := 4) (kf := 0) rfl (Nat.le_of_ble_eq_true rfl) (by decide) (by decide) rfl fl_X2_7 (Or.inr sf_X2_log) rfl ?_
    refine r_getR (q := 46) dX2_moves_16 (ci := 9) (kf := 0) rfl (Nat.le_of_ble_eq_true rfl) (by decide) (by decide) rfl fl_X2_19 (Or.inl rfl) rfl ?_
    refine r_aload_n dX2_moves_19 rfl rfl ?_
    refine r_getR (q := 45) dX2_moves_20 (ci := 4) (kf := 0) rfl (Nat.le_of_ble_eq_true rfl) (by decide) (by decide) rfl fl_X2_7 (Or.inr sf_X2_log) rfl ?_
    refine r_dup dX2_moves_23 rfl ?_
    refine r_getI dX2_moves_24 (ci := 9) (kf := 1) rfl (Nat.le_of_ble_eq_true rfl) (by decide) (by decide) rfl fl_X2_13 (Or.inl rfl) ?_
    rw [acC_c]
    refine r_dup_x1 dX2_moves_27 rfl rfl ?_
    refine r_iconst (v := 1) dX2_moves_28 (by decide) ?_
    refine r_iaddN (A.2.1) (1) dX2_moves_29 ?_
    refine r_putI dX2_moves_30 (ci := 9) (kf := 1) rfl (Nat.le_of_ble_eq_true rfl) (by decide) (by decide) rfl fl_X2_13 (Or.inl rfl) rfl rfl rfl ?_
    refine r_bipush (v := 31) dX2_moves_33 (by decide) ?_
    refine r_iast (j := A.2.1) dX2_moves_35 rfl (Nat.le_of_ble_eq_true rfl) rfl (by omega) (by decide) ?_
    rw [acC_b (by omega)]
    exact PW.subL J (by repeat' first | exact True.intro | refine And.intro rfl ?_)
set_option maxRecDepth 20000 in
set_option maxHeartbeats 1000000 in
theorem s_m3_5 (g : pG) {M : Nat → Nat → Int32} {A : aT} (hA : A.2.1 ≤ 30) (ko : Nat) (o1 : Int32) (hn : M 53 1 = nI ko) (ho : M 53 2 = o1) (x : Int32) : MS g mX3_moves 3 0 0 [.ref 53, .int x] (Gs (acC M A)) (dI (mov0 ko 5 o1 x A).1 (Gs (acC M (mov0 ko 5 o1 x A).2))) := by
  refine MS.of pn_X3 (Nat.le_of_ble_eq_true rfl) ?_
  have J : PW g mX3_moves (eN g (Gs (acC M A)).1 3 0 0 (dI (mov0 ko 5 o1 x A).1 (Gs (acC M (mov0 ko 5 o1 x A).2)))) 36 [some (.ref 53), some (.int x)] [] (Gs (acC M (stA 13 A))) 0 0 := by
    refine r_aload_n dX3_moves_36 rfl rfl ?_
    refine r_iload_n dX3_moves_37 rfl rfl ?_
    refine r_callU_dI (ci := 7) dX3_moves_38 (s_sg_5 g (stA_le hA) ko o1 hn ho _) mf_X3_sings mi_X3_sings se_X7_X3_X3_sings ml_X3_37 sm_X3_X3_sings rfl rfl rfl (Nat.le_of_ble_eq_true rfl) rfl (by decide) (Nat.le_of_ble_eq_true rfl) ⟨(Nat.le_of_ble_eq_true rfl), (Nat.le_of_ble_eq_true rfl)⟩ ⟨(Nat.le_of_ble_eq_true rfl), (Nat.le_of_ble_eq_true rfl)⟩ ?_
    refine r_sipush (v := 220) dX3_moves_41 (by decide) ?_
    refine r_ixor dX3_moves_44 ?_
    refine r_iret dX3_moves_45 rfl (Nat.le_refl _) ?_
    (try dsimp only [Gs_M])
    exact ⟨rfl, rfl⟩
  refine r_aload_n dX3_moves_0 rfl rfl ?_
  refine r_getR (q := 45) dX3_moves_1 (ci := 7) (kf := 0) rfl (Nat.le_of_ble_eq_true rfl) (by decide) (by decide) rfl fl_X3_7 (Or.inl rfl) rfl ?_
  refine r_getI dX3_moves_4 (ci := 9) (kf := 1) rfl (Nat.le_of_ble_eq_true rfl) (by decide) (by decide) rfl fl_X3_20 (Or.inl rfl) ?_
  rw [acC_c]
  refine r_bipush (v := 30) dX3_moves_7 (by decide) ?_
  refine r_icmp_geN (A.2.1) (30) (tgt := 36) dX3_moves_9 (by decide) (by omega) (by omega) (fun c_9 => ?_) (fun c_9 => ?_)
  · (try dsimp only [Gs_M] at c_9)
    rw [acC_n (b := 13) (by omega)]
    exact PW.subL J (by repeat' first | exact True.intro | refine And.intro rfl ?_)
  · (try dsimp only [Gs_M] at c_9)
    refine r_aload_n dX3_moves_12 rfl rfl ?_
    refine r_getR (q := 45) dX3_moves_13 (ci := 7) (kf := 0) rfl (Nat.le_of_ble_eq_true rfl) (by decide) (by decide) rfl fl_X3_7 (Or.inl rfl) rfl ?_
    refine r_getR (q := 46) dX3_moves_16 (ci := 9) (kf := 0) rfl (Nat.le_of_ble_eq_true rfl) (by decide) (by decide) rfl fl_X3_25 (Or.inl rfl) rfl ?_
    refine r_aload_n dX3_moves_19 rfl rfl ?_
    refine r_getR (q := 45) dX3_moves_20 (ci := 7) (kf := 0) rfl (Nat.le_of_ble_eq_true rfl) (by decide) (by decide) rfl fl_X3_7 (Or.inl rfl) rfl ?_
    refine r_dup dX3_moves_23 rfl ?_
    refine r_getI dX3_moves_24 (ci := 9) (kf := 1) rfl (Nat.le_of_ble_eq_true rfl) (by decide) (by decide) rfl fl_X3_20 (Or.inl rfl) ?_
    rw [acC_c]
    refine r_dup_x1 dX3_moves_27 rfl rfl ?_
    refine r_iconst (v := 1) dX3_moves_28 (by decide) ?_
    refine r_iaddN (A.2.1) (1) dX3_moves_29 ?_
    refine r_putI dX3_moves_30 (ci := 9) (kf := 1) rfl (Nat.le_of_ble_eq_true rfl) (by decide) (by decide) rfl fl_X3_20 (Or.inl rfl) rfl rfl rfl ?_
    refine r_bipush (v := 13) dX3_moves_33 (by decide) ?_
    refine r_iast (j := A.2.1) dX3_moves_35 rfl (Nat.le_of_ble_eq_true rfl) rfl (by omega) (by decide) ?_
    rw [acC_b (by omega)]
    exact PW.subL J (by repeat' first | exact True.intro | refine And.intro rfl ?_)
set_option maxRecDepth 20000 in
set_option maxHeartbeats 1000000 in
theorem s_mv_5 (g : pG) {M : Nat → Nat → Int32} {A : aT} (hA : A.2.1 ≤ 30) (ko : Nat) (o1 : Int32) (hn : M 53 1 = nI ko) (ho : M 53 2 = o1) (hp : A.2.2 = 0) (x : Int32) : MS g mX7_moves 4 0 0 [.ref 53, .int x] (Gs (acC M A)) (dI (movK ko 5 o1 5 x A).1 (Gs (acC M (movK ko 5 o1 5 x A).2))) := by
  refine MS.of pn_X7 (Nat.le_of_ble_eq_true rfl) ?_
  have J : PW g mX7_moves (eN g (Gs (acC M A)).1 4 0 0 (dI (movK ko 5 o1 5 x A).1 (Gs (acC M (movK ko 5 o1 5 x A).2)))) 36 [some (.ref 53), some (.int x)] [] (Gs (acC M (stA 60 A))) 0 0 := by
    refine r_aload_n dX7_moves_36 rfl rfl ?_
    refine r_iload_n dX7_moves_37 rfl rfl ?_
    refine r_callSU_dI (ci := 7) dX7_moves_38 (s_m3_5 g (stA_le hA) ko o1 hn ho _) mf_X3_moves mi_X3_moves ml_X7_23 sm_X3_X3_moves su_X7_X3 (by decide) rfl rfl (Nat.le_of_ble_eq_true rfl) rfl (by decide) (Nat.le_of_ble_eq_true rfl) ⟨(Nat.le_of_ble_eq_true rfl), (Nat.le_of_ble_eq_true rfl)⟩ ⟨(Nat.le_of_ble_eq_true rfl), (Nat.le_of_ble_eq_true rfl)⟩ ?_
    refine r_iconst (v := 1) dX7_moves_41 (by decide) ?_
    refine r_isub dX7_moves_42 ?_
    refine r_iret dX7_moves_43 rfl (Nat.le_refl _) ?_
    (try dsimp only [Gs_M])
    exact ⟨rfl, rfl⟩
  refine r_aload_n dX7_moves_0 rfl rfl ?_
  refine r_getR (q := 45) dX7_moves_1 (ci := 7) (kf := 0) rfl (Nat.le_of_ble_eq_true rfl) (by decide) (by decide) rfl fl_X7_7 (Or.inr sf_X7_log) rfl ?_
  refine r_getI dX7_moves_4 (ci := 9) (kf := 1) rfl (Nat.le_of_ble_eq_true rfl) (by decide) (by decide) rfl fl_X7_13 (Or.inl rfl) ?_
  rw [acC_c]
  refine r_bipush (v := 30) dX7_moves_7 (by decide) ?_
  refine r_icmp_geN (A.2.1) (30) (tgt := 36) dX7_moves_9 (by decide) (by omega) (by omega) (fun c_9 => ?_) (fun c_9 => ?_)
  · (try dsimp only [Gs_M] at c_9)
    rw [acC_n (b := 60) (by omega)]
    exact PW.subL J (by repeat' first | exact True.intro | refine And.intro rfl ?_)
  · (try dsimp only [Gs_M] at c_9)
    refine r_aload_n dX7_moves_12 rfl rfl ?_
    refine r_getR (q := 45) dX7_moves_13 (ci := 7) (kf := 0) rfl (Nat.le_of_ble_eq_true rfl) (by decide) (by decide) rfl fl_X7_7 (Or.inr sf_X7_log) rfl ?_
    refine r_getR (q := 46) dX7_moves_16 (ci := 9) (kf := 0) rfl (Nat.le_of_ble_eq_true rfl) (by decide) (by decide) rfl fl_X7_19 (Or.inl rfl) rfl ?_
    refine r_aload_n dX7_moves_19 rfl rfl ?_
    refine r_getR (q := 45) dX7_moves_20 (ci := 7) (kf := 0) rfl (Nat.le_of_ble_eq_true rfl) (by decide) (by decide) rfl fl_X7_7 (Or.inr sf_X7_log) rfl ?_
    refine r_dup dX7_moves_23 rfl ?_
    refine r_getI dX7_moves_24 (ci := 9) (kf := 1) rfl (Nat.le_of_ble_eq_true rfl) (by decide) (by decide) rfl fl_X7_13 (Or.inl rfl) ?_
    rw [acC_c]
    refine r_dup_x1 dX7_moves_27 rfl rfl ?_
    refine r_iconst (v := 1) dX7_moves_28 (by decide) ?_
    refine r_iaddN (A.2.1) (1) dX7_moves_29 ?_
    refine r_putI dX7_moves_30 (ci := 9) (kf := 1) rfl (Nat.le_of_ble_eq_true rfl) (by decide) (by decide) rfl fl_X7_13 (Or.inl rfl) rfl rfl rfl ?_
    refine r_bipush (v := 60) dX7_moves_33 (by decide) ?_
    refine r_iast (j := A.2.1) dX7_moves_35 rfl (Nat.le_of_ble_eq_true rfl) rfl (by omega) (by decide) ?_
    rw [acC_b (by omega)]
    exact PW.subL J (by repeat' first | exact True.intro | refine And.intro rfl ?_)
