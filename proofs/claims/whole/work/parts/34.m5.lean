set_option maxRecDepth 20000 in
set_option maxHeartbeats 1000000 in
theorem s_X12_set (g : pG) {S : pS} (hS : sOk S) (hI : InvR (S.2.2.2 55)) (law : Int32) (v : Int32) : MS g mX12_set 3 0 0 [.ref 54, .int law, .int v] (S) (eI (fun rx S1 => rx = setX ((S).2.2.2 55) law v ∧ kp [55] (S) S1 ∧ S1.2.2.2 55 = setW ((S).2.2.2 55) law v)) := by
  obtain ⟨M0, rfl⟩ := sOk_gs hS
  refine MS.of pn_X12 (Nat.le_of_ble_eq_true rfl) ?_
  refine r_iload_n dX12_set_0 rfl rfl ?_
  refine r_callS_dI dX12_set_1 (s_X12_isLaw g _ _) mf_X12_isLaw mt_X12_isLaw ml_X12_176 rfl rfl (Nat.le_of_ble_eq_true rfl) ⟨(Nat.le_of_ble_eq_true rfl), (Nat.le_of_ble_eq_true rfl)⟩ ⟨(Nat.le_of_ble_eq_true rfl), (Nat.le_of_ble_eq_true rfl)⟩ ?_
  refine r_if_eq (tgt := 38) dX12_set_4 (by decide) (fun c_4 => ?_) (fun c_4 => ?_)
  · have c_4 := bI_0 c_4
    refine r_iconst (v := (-1)) dX12_set_38 (by decide) ?_
    refine r_iret dX12_set_39 rfl (Nat.le_refl _) ?_
    refine ⟨_, rfl, ?_, kp.rf hS, ?_⟩
    · rw [setX, if_neg (fun z => c_4 z.1)]
    · rw [setW, if_neg (fun z => c_4 z.1)]
      (try rfl)
  · have c_4 := bI_n c_4
    refine r_iload_n dX12_set_7 rfl rfl ?_
    refine r_iconst (v := 0) dX12_set_8 (by decide) ?_
    refine r_iload_n dX12_set_9 rfl rfl ?_
    refine r_iconst (v := 2) dX12_set_10 (by decide) ?_
    refine r_icmp_ge (tgt := 19) dX12_set_11 (by decide) (fun c_11 => ?_) (fun c_11 => ?_)
    · refine r_bipush (v := 99) dX12_set_19 (by decide) ?_
      refine r_callS_dI dX12_set_21 (s_X12_in1 g _ _ _ _) mf_X12_in1 mt_X12_in1 ml_X12_63 rfl rfl (Nat.le_of_ble_eq_true rfl) ⟨(Nat.le_of_ble_eq_true rfl), (Nat.le_of_ble_eq_true rfl)⟩ ⟨(Nat.le_of_ble_eq_true rfl), (Nat.le_of_ble_eq_true rfl)⟩ ?_
      refine r_if_eq (tgt := 38) dX12_set_24 (by decide) (fun c_24 => ?_) (fun c_24 => ?_)
      · have c_24 := bI_0 c_24
        have c_24 : ¬ (0 ≤ v ∧ v ≤ (if 2 ≤ law then 99 else 9)) := by rw [if_pos c_11]; exact c_24
        refine r_iconst (v := (-1)) dX12_set_38 (by decide) ?_
        refine r_iret dX12_set_39 rfl (Nat.le_refl _) ?_
        refine ⟨_, rfl, ?_, kp.rf hS, ?_⟩
        · rw [setX, if_neg (fun z => c_24 z.2)]
        · rw [setW, if_neg (fun z => c_24 z.2)]
          (try rfl)
      · have c_24 := bI_n c_24
        have c_24 : (0 ≤ v ∧ v ≤ (if 2 ≤ law then 99 else 9)) := by rw [if_pos c_11]; exact c_24
        refine r_aload_n dX12_set_27 rfl rfl ?_
        obtain ⟨j1, hj1, rfl⟩ := rng (x := law) 3 (by decide) c_4
        refine r_iconst (v := 1) dX12_set_28 (by decide) ?_
        refine r_iload_n dX12_set_29 rfl rfl ?_
        refine r_iaddN (1) (j1) dX12_set_30 ?_
        refine r_iload_n dX12_set_31 rfl rfl ?_
        refine r_callV_dI (ci := 12) dX12_set_32 (s_X12_becomes g (by exact ⟨rfl, rfl, rfl⟩) ((1 + j1)) (by omega) _) mf_X12_becomes mi_X12_becomes se_X12_X12_X12_becomes ml_X12_179 rfl rfl (Nat.le_of_ble_eq_true rfl) rfl (by decide) rfl (Nat.le_of_ble_eq_true rfl) ⟨(Nat.le_of_ble_eq_true rfl), (Nat.le_of_ble_eq_true rfl)⟩ ⟨(Nat.le_of_ble_eq_true rfl), (Nat.le_of_ble_eq_true rfl)⟩ ?_
        refine r_goto (tgt := 39) dX12_set_35 (by decide) ?_
        refine r_iret dX12_set_39 rfl (Nat.le_refl _) ?_
        refine ⟨_, rfl, ?_, (kp.rf hS).set (by decide) (by decide), ?_⟩
        · rw [setX, if_pos (⟨c_4, c_24⟩), cl_nI (by omega)]
          (try rfl)
        · rw [mSet_at, setW, if_pos (⟨c_4, c_24⟩), cl_nI (by omega)]
          (try rfl)
    · refine r_bipush (v := 9) dX12_set_14 (by decide) ?_
      refine r_goto (tgt := 21) dX12_set_16 (by decide) ?_
      refine r_callS_dI dX12_set_21 (s_X12_in1 g _ _ _ _) mf_X12_in1 mt_X12_in1 ml_X12_63 rfl rfl (Nat.le_of_ble_eq_true rfl) ⟨(Nat.le_of_ble_eq_true rfl), (Nat.le_of_ble_eq_true rfl)⟩ ⟨(Nat.le_of_ble_eq_true rfl), (Nat.le_of_ble_eq_true rfl)⟩ ?_
      refine r_if_eq (tgt := 38) dX12_set_24 (by decide) (fun c_24 => ?_) (fun c_24 => ?_)
      · have c_24 := bI_0 c_24
        have c_24 : ¬ (0 ≤ v ∧ v ≤ (if 2 ≤ law then 99 else 9)) := by rw [if_neg c_11]; exact c_24
        refine r_iconst (v := (-1)) dX12_set_38 (by decide) ?_
        refine r_iret dX12_set_39 rfl (Nat.le_refl _) ?_
        refine ⟨_, rfl, ?_, kp.rf hS, ?_⟩
        · rw [setX, if_neg (fun z => c_24 z.2)]
        · rw [setW, if_neg (fun z => c_24 z.2)]
          (try rfl)
      · have c_24 := bI_n c_24
        have c_24 : (0 ≤ v ∧ v ≤ (if 2 ≤ law then 99 else 9)) := by rw [if_neg c_11]; exact c_24
        refine r_aload_n dX12_set_27 rfl rfl ?_
        obtain ⟨j1, hj1, rfl⟩ := rng (x := law) 3 (by decide) c_4
        refine r_iconst (v := 1) dX12_set_28 (by decide) ?_
        refine r_iload_n dX12_set_29 rfl rfl ?_
        refine r_iaddN (1) (j1) dX12_set_30 ?_
        refine r_iload_n dX12_set_31 rfl rfl ?_
        refine r_callV_dI (ci := 12) dX12_set_32 (s_X12_becomes g (by exact ⟨rfl, rfl, rfl⟩) ((1 + j1)) (by omega) _) mf_X12_becomes mi_X12_becomes se_X12_X12_X12_becomes ml_X12_179 rfl rfl (Nat.le_of_ble_eq_true rfl) rfl (by decide) rfl (Nat.le_of_ble_eq_true rfl) ⟨(Nat.le_of_ble_eq_true rfl), (Nat.le_of_ble_eq_true rfl)⟩ ⟨(Nat.le_of_ble_eq_true rfl), (Nat.le_of_ble_eq_true rfl)⟩ ?_
        refine r_goto (tgt := 39) dX12_set_35 (by decide) ?_
        refine r_iret dX12_set_39 rfl (Nat.le_refl _) ?_
        refine ⟨_, rfl, ?_, (kp.rf hS).set (by decide) (by decide), ?_⟩
        · rw [setX, if_pos (⟨c_4, c_24⟩), cl_nI (by omega)]
          (try rfl)
        · rw [mSet_at, setW, if_pos (⟨c_4, c_24⟩), cl_nI (by omega)]
          (try rfl)
set_option maxRecDepth 20000 in
set_option maxHeartbeats 1000000 in
theorem s_X12_lawOf (g : pG) {S : pS} (hS : sOk S) (hI : InvR (S.2.2.2 55)) (law : Int32) : MS g mX12_lawOf 3 0 0 [.ref 54, .int law] (S) (eI (fun rx S1 => rx = lawX ((S).2.2.2 55) law ∧ kp [] (S) S1)) := by
  obtain ⟨M0, rfl⟩ := sOk_gs hS
  refine MS.of pn_X12 (Nat.le_of_ble_eq_true rfl) ?_
  refine r_iload_n dX12_lawOf_0 rfl rfl ?_
  refine r_callS_dI dX12_lawOf_1 (s_X12_isLaw g _ _) mf_X12_isLaw mt_X12_isLaw ml_X12_176 rfl rfl (Nat.le_of_ble_eq_true rfl) ⟨(Nat.le_of_ble_eq_true rfl), (Nat.le_of_ble_eq_true rfl)⟩ ⟨(Nat.le_of_ble_eq_true rfl), (Nat.le_of_ble_eq_true rfl)⟩ ?_
  refine r_if_eq (tgt := 18) dX12_lawOf_4 (by decide) (fun c_4 => ?_) (fun c_4 => ?_)
  · have c_4 := bI_0 c_4
    refine r_iconst (v := (-1)) dX12_lawOf_18 (by decide) ?_
    refine r_iret dX12_lawOf_19 rfl (Nat.le_refl _) ?_
    refine ⟨_, rfl, ?_, kp.rf hS⟩
    · rw [lawX, if_neg (fun z => c_4 z)]
  · have c_4 := bI_n c_4
    refine r_aload_n dX12_lawOf_7 rfl rfl ?_
    refine r_getR (q := 55) dX12_lawOf_8 (ci := 12) (kf := 0) rfl (Nat.le_of_ble_eq_true rfl) (by decide) (by decide) rfl fl_X12_9 (Or.inl rfl) rfl ?_
    refine r_iconst (v := 1) dX12_lawOf_11 (by decide) ?_
    obtain ⟨j1, hj1, rfl⟩ := rng (x := law) 3 (by decide) c_4
    refine r_iload_n dX12_lawOf_12 rfl rfl ?_
    refine r_iaddN (1) (j1) dX12_lawOf_13 ?_
    refine r_iald (j := (1 + j1)) dX12_lawOf_14 rfl (Nat.le_of_ble_eq_true rfl) rfl (by omega) (by decide) ?_
    refine r_goto (tgt := 19) dX12_lawOf_15 (by decide) ?_
    refine r_iret dX12_lawOf_19 rfl (Nat.le_refl _) ?_
    refine ⟨_, rfl, ?_, kp.rf hS⟩
    · rw [lawX, if_pos (c_4), cl_nI (by omega)]
set_option maxRecDepth 20000 in
set_option maxHeartbeats 1000000 in
theorem s_X12_weigh (g : pG) {S : pS} (hS : sOk S) (hI : InvR (S.2.2.2 55)) (p : Int32) (v : Int32) : MS g mX12_weigh 3 0 0 [.ref 54, .int p, .int v] (S) (eI (fun rx S1 => rx = weighX ((S).2.2.2 55) p v ∧ kp [55] (S) S1 ∧ S1.2.2.2 55 = weighW ((S).2.2.2 55) p v)) := by
  obtain ⟨M0, rfl⟩ := sOk_gs hS
  refine MS.of pn_X12 (Nat.le_of_ble_eq_true rfl) ?_
  refine r_iload_n dX12_weigh_0 rfl rfl ?_
  refine r_callS_dI dX12_weigh_1 (s_X12_isPart g _ _) mf_X12_isPart mt_X12_isPart ml_X12_182 rfl rfl (Nat.le_of_ble_eq_true rfl) ⟨(Nat.le_of_ble_eq_true rfl), (Nat.le_of_ble_eq_true rfl)⟩ ⟨(Nat.le_of_ble_eq_true rfl), (Nat.le_of_ble_eq_true rfl)⟩ ?_
  refine r_if_eq (tgt := 29) dX12_weigh_4 (by decide) (fun c_4 => ?_) (fun c_4 => ?_)
  · have c_4 := bI_0 c_4
    refine r_iconst (v := (-1)) dX12_weigh_29 (by decide) ?_
    refine r_iret dX12_weigh_30 rfl (Nat.le_refl _) ?_
    refine ⟨_, rfl, ?_, kp.rf hS, ?_⟩
    · rw [weighX, if_neg (fun z => c_4 z.1)]
    · rw [weighW, if_neg (fun z => c_4 z.1)]
      (try rfl)
  · have c_4 := bI_n c_4
    refine r_iload_n dX12_weigh_7 rfl rfl ?_
    refine r_iconst (v := 0) dX12_weigh_8 (by decide) ?_
    refine r_bipush (v := 9) dX12_weigh_9 (by decide) ?_
    refine r_callS_dI dX12_weigh_11 (s_X12_in1 g _ _ _ _) mf_X12_in1 mt_X12_in1 ml_X12_63 rfl rfl (Nat.le_of_ble_eq_true rfl) ⟨(Nat.le_of_ble_eq_true rfl), (Nat.le_of_ble_eq_true rfl)⟩ ⟨(Nat.le_of_ble_eq_true rfl), (Nat.le_of_ble_eq_true rfl)⟩ ?_
    refine r_if_eq (tgt := 29) dX12_weigh_14 (by decide) (fun c_14 => ?_) (fun c_14 => ?_)
    · have c_14 := bI_0 c_14
      refine r_iconst (v := (-1)) dX12_weigh_29 (by decide) ?_
      refine r_iret dX12_weigh_30 rfl (Nat.le_refl _) ?_
      refine ⟨_, rfl, ?_, kp.rf hS, ?_⟩
      · rw [weighX, if_neg (fun z => c_14 z.2)]
      · rw [weighW, if_neg (fun z => c_14 z.2)]
        (try rfl)
    · have c_14 := bI_n c_14
      refine r_aload_n dX12_weigh_17 rfl rfl ?_
      obtain ⟨j1, hj1, rfl⟩ := rng (x := p) 7 (by decide) c_4
      refine r_bipush (v := 8) dX12_weigh_18 (by decide) ?_
      refine r_iload_n dX12_weigh_20 rfl rfl ?_
      refine r_iaddN (8) (j1) dX12_weigh_21 ?_
      refine r_iload_n dX12_weigh_22 rfl rfl ?_
      refine r_callV_dI (ci := 12) dX12_weigh_23 (s_X12_becomes g (by exact ⟨rfl, rfl, rfl⟩) ((8 + j1)) (by omega) _) mf_X12_becomes mi_X12_becomes se_X12_X12_X12_becomes ml_X12_179 rfl rfl (Nat.le_of_ble_eq_true rfl) rfl (by decide) rfl (Nat.le_of_ble_eq_true rfl) ⟨(Nat.le_of_ble_eq_true rfl), (Nat.le_of_ble_eq_true rfl)⟩ ⟨(Nat.le_of_ble_eq_true rfl), (Nat.le_of_ble_eq_true rfl)⟩ ?_
      refine r_goto (tgt := 30) dX12_weigh_26 (by decide) ?_
      refine r_iret dX12_weigh_30 rfl (Nat.le_refl _) ?_
      refine ⟨_, rfl, ?_, (kp.rf hS).set (by decide) (by decide), ?_⟩
      · rw [weighX, if_pos (⟨c_4, c_14⟩), cl_nI (by omega)]
        (try rfl)
      · rw [mSet_at, weighW, if_pos (⟨c_4, c_14⟩), cl_nI (by omega)]
        (try rfl)
set_option maxRecDepth 20000 in
set_option maxHeartbeats 1000000 in
theorem s_X12_knows (g : pG) {S : pS} (hS : sOk S) (hI : InvR (S.2.2.2 55)) (x : Int32) (p : Int32) : MS g mX12_knows 3 0 0 [.ref 54, .int x, .int p] (S) (eI (fun rx S1 => rx = knowsX ((S).2.2.2 55) x p ∧ kp [] (S) S1)) := by
  obtain ⟨M0, rfl⟩ := sOk_gs hS
  refine MS.of pn_X12 (Nat.le_of_ble_eq_true rfl) ?_
  refine r_aload_n dX12_knows_0 rfl rfl ?_
  refine r_iload_n dX12_knows_1 rfl rfl ?_
  refine r_callV_dI (ci := 12) dX12_knows_2 (s_X12_isPlayer g (by exact ⟨rfl, rfl, rfl⟩) _) mf_X12_isPlayer mi_X12_isPlayer se_X12_X12_X12_isPlayer ml_X12_188 rfl rfl (Nat.le_of_ble_eq_true rfl) rfl (by decide) rfl (Nat.le_of_ble_eq_true rfl) ⟨(Nat.le_of_ble_eq_true rfl), (Nat.le_of_ble_eq_true rfl)⟩ ⟨(Nat.le_of_ble_eq_true rfl), (Nat.le_of_ble_eq_true rfl)⟩ ?_
  refine r_if_eq (tgt := 26) dX12_knows_5 (by decide) (fun c_5 => ?_) (fun c_5 => ?_)
  · have c_5 := bI_0 c_5
    refine r_iconst (v := (-1)) dX12_knows_26 (by decide) ?_
    refine r_iret dX12_knows_27 rfl (Nat.le_refl _) ?_
    refine ⟨_, rfl, ?_, kp.rf hS⟩
    · rw [knowsX, if_neg (fun z => c_5 z.1)]
  · have c_5 := bI_n c_5
    refine r_iload_n dX12_knows_8 rfl rfl ?_
    refine r_callS_dI dX12_knows_9 (s_X12_isPart g _ _) mf_X12_isPart mt_X12_isPart ml_X12_182 rfl rfl (Nat.le_of_ble_eq_true rfl) ⟨(Nat.le_of_ble_eq_true rfl), (Nat.le_of_ble_eq_true rfl)⟩ ⟨(Nat.le_of_ble_eq_true rfl), (Nat.le_of_ble_eq_true rfl)⟩ ?_
    refine r_if_eq (tgt := 26) dX12_knows_12 (by decide) (fun c_12 => ?_) (fun c_12 => ?_)
    · have c_12 := bI_0 c_12
      refine r_iconst (v := (-1)) dX12_knows_26 (by decide) ?_
      refine r_iret dX12_knows_27 rfl (Nat.le_refl _) ?_
      refine ⟨_, rfl, ?_, kp.rf hS⟩
      · rw [knowsX, if_neg (fun z => c_12 z.2)]
    · have c_12 := bI_n c_12
      obtain ⟨h8, hpl⟩ := hI.pl
      have h8 : plR (M0 55) ≤ 8 := h8
      have hpl : M0 55 6 = nI (plR (M0 55)) := hpl
      obtain ⟨k, hk, rfl⟩ := rngP (x := x) c_5 h8 hpl
      obtain ⟨j, hj, rfl⟩ := rng (x := p) 7 (by decide) c_12
      refine r_aload_n dX12_knows_15 rfl rfl ?_
      refine r_iload_n dX12_knows_16 rfl rfl ?_
      refine r_iconst (v := 3) dX12_knows_17 (by decide) ?_
      refine r_iload_n dX12_knows_18 rfl rfl ?_
      refine r_iaddN (3) (j) dX12_knows_19 ?_
      refine r_callV_dI (ci := 12) dX12_knows_20 (s_X12_get g (by exact ⟨rfl, rfl, rfl⟩) (k) ((3 + j)) (by omega) (by omega)) mf_X12_get mi_X12_get se_X12_X12_X12_get ml_X12_67 rfl rfl (Nat.le_of_ble_eq_true rfl) rfl (by decide) rfl (Nat.le_of_ble_eq_true rfl) ⟨(Nat.le_of_ble_eq_true rfl), (Nat.le_of_ble_eq_true rfl)⟩ ⟨(Nat.le_of_ble_eq_true rfl), (Nat.le_of_ble_eq_true rfl)⟩ ?_
      refine r_goto (tgt := 27) dX12_knows_23 (by decide) ?_
      refine r_iret dX12_knows_27 rfl (Nat.le_refl _) ?_
      refine ⟨_, rfl, ?_, kp.rf hS⟩
      · rw [knowsX, if_pos (⟨c_5, c_12⟩), cl_nI (by omega), cl_nI (by omega)]
set_option maxRecDepth 20000 in
set_option maxHeartbeats 1000000 in
theorem s_X12_mind (g : pG) {S : pS} (hS : sOk S) (hI : InvR (S.2.2.2 55)) (x : Int32) (kd : Int32) : MS g mX12_mind 3 0 0 [.ref 54, .int x, .int kd] (S) (eI (fun rx S1 => rx = mindX ((S).2.2.2 55) x kd ∧ kp [55] (S) S1 ∧ S1.2.2.2 55 = mindW ((S).2.2.2 55) x kd)) := by
  obtain ⟨M0, rfl⟩ := sOk_gs hS
  refine MS.of pn_X12 (Nat.le_of_ble_eq_true rfl) ?_
  refine r_aload_n dX12_mind_0 rfl rfl ?_
  refine r_iload_n dX12_mind_1 rfl rfl ?_
  refine r_callV_dI (ci := 12) dX12_mind_2 (s_X12_isPlayer g (by exact ⟨rfl, rfl, rfl⟩) _) mf_X12_isPlayer mi_X12_isPlayer se_X12_X12_X12_isPlayer ml_X12_188 rfl rfl (Nat.le_of_ble_eq_true rfl) rfl (by decide) rfl (Nat.le_of_ble_eq_true rfl) ⟨(Nat.le_of_ble_eq_true rfl), (Nat.le_of_ble_eq_true rfl)⟩ ⟨(Nat.le_of_ble_eq_true rfl), (Nat.le_of_ble_eq_true rfl)⟩ ?_
  refine r_if_eq (tgt := 32) dX12_mind_5 (by decide) (fun c_5 => ?_) (fun c_5 => ?_)
  · have c_5 := bI_0 c_5
    refine r_iconst (v := (-1)) dX12_mind_32 (by decide) ?_
    refine r_iret dX12_mind_33 rfl (Nat.le_refl _) ?_
    refine ⟨_, rfl, ?_, kp.rf hS, ?_⟩
    · rw [mindX, if_neg (fun z => c_5 z.1)]
    · rw [mindW, if_neg (fun z => c_5 z.1)]
      (try rfl)
  · have c_5 := bI_n c_5
    refine r_iload_n dX12_mind_8 rfl rfl ?_
    refine r_iconst (v := 0) dX12_mind_9 (by decide) ?_
    refine r_iconst (v := 5) dX12_mind_10 (by decide) ?_
    refine r_callS_dI dX12_mind_11 (s_X12_in1 g _ _ _ _) mf_X12_in1 mt_X12_in1 ml_X12_63 rfl rfl (Nat.le_of_ble_eq_true rfl) ⟨(Nat.le_of_ble_eq_true rfl), (Nat.le_of_ble_eq_true rfl)⟩ ⟨(Nat.le_of_ble_eq_true rfl), (Nat.le_of_ble_eq_true rfl)⟩ ?_
    refine r_if_eq (tgt := 32) dX12_mind_14 (by decide) (fun c_14 => ?_) (fun c_14 => ?_)
    · have c_14 := bI_0 c_14
      refine r_iconst (v := (-1)) dX12_mind_32 (by decide) ?_
      refine r_iret dX12_mind_33 rfl (Nat.le_refl _) ?_
      refine ⟨_, rfl, ?_, kp.rf hS, ?_⟩
      · rw [mindX, if_neg (fun z => c_14 z.2)]
      · rw [mindW, if_neg (fun z => c_14 z.2)]
        (try rfl)
    · have c_14 := bI_n c_14
      obtain ⟨h8, hpl⟩ := hI.pl
      have h8 : plR (M0 55) ≤ 8 := h8
      have hpl : M0 55 6 = nI (plR (M0 55)) := hpl
      obtain ⟨k, hk, rfl⟩ := rngP (x := x) c_5 h8 hpl
      refine r_aload_n dX12_mind_17 rfl rfl ?_
      refine r_bipush (v := 16) dX12_mind_18 (by decide) ?_
      refine r_bipush (v := 11) dX12_mind_20 (by decide) ?_
      refine r_iload_n dX12_mind_22 rfl rfl ?_
      refine r_imulN (11) (k) dX12_mind_23 ?_
      refine r_iaddN (16) ((11 * k)) dX12_mind_24 ?_
      refine r_iload_n dX12_mind_25 rfl rfl ?_
      refine r_callV_dI (ci := 12) dX12_mind_26 (s_X12_becomes g (by exact ⟨rfl, rfl, rfl⟩) ((16 + (11 * k))) (by omega) _) mf_X12_becomes mi_X12_becomes se_X12_X12_X12_becomes ml_X12_179 rfl rfl (Nat.le_of_ble_eq_true rfl) rfl (by decide) rfl (Nat.le_of_ble_eq_true rfl) ⟨(Nat.le_of_ble_eq_true rfl), (Nat.le_of_ble_eq_true rfl)⟩ ⟨(Nat.le_of_ble_eq_true rfl), (Nat.le_of_ble_eq_true rfl)⟩ ?_
      refine r_goto (tgt := 33) dX12_mind_29 (by decide) ?_
      refine r_iret dX12_mind_33 rfl (Nat.le_refl _) ?_
      refine ⟨_, rfl, ?_, (kp.rf hS).set (by decide) (by decide), ?_⟩
      · rw [mindX, if_pos (⟨c_5, c_14⟩), cl_nI (by omega)]
        (try rfl)
      · rw [mSet_at, mindW, if_pos (⟨c_5, c_14⟩), cl_nI (by omega)]
        (try rfl)
set_option maxRecDepth 20000 in
set_option maxHeartbeats 1000000 in
theorem s_X12_teach (g : pG) {S : pS} (hS : sOk S) (hI : InvR (S.2.2.2 55)) (x : Int32) (p : Int32) (v : Int32) : MS g mX12_teach 3 0 0 [.ref 54, .int x, .int p, .int v] (S) (eI (fun rx S1 => rx = teachX ((S).2.2.2 55) x p v ∧ kp [55] (S) S1 ∧ S1.2.2.2 55 = teachW ((S).2.2.2 55) x p v)) := by
  obtain ⟨M0, rfl⟩ := sOk_gs hS
  refine MS.of pn_X12 (Nat.le_of_ble_eq_true rfl) ?_
  refine r_aload_n dX12_teach_0 rfl rfl ?_
  refine r_iload_n dX12_teach_1 rfl rfl ?_
  refine r_callV_dI (ci := 12) dX12_teach_2 (s_X12_isPlayer g (by exact ⟨rfl, rfl, rfl⟩) _) mf_X12_isPlayer mi_X12_isPlayer se_X12_X12_X12_isPlayer ml_X12_188 rfl rfl (Nat.le_of_ble_eq_true rfl) rfl (by decide) rfl (Nat.le_of_ble_eq_true rfl) ⟨(Nat.le_of_ble_eq_true rfl), (Nat.le_of_ble_eq_true rfl)⟩ ⟨(Nat.le_of_ble_eq_true rfl), (Nat.le_of_ble_eq_true rfl)⟩ ?_
  refine r_if_eq (tgt := 44) dX12_teach_5 (by decide) (fun c_5 => ?_) (fun c_5 => ?_)
  · have c_5 := bI_0 c_5
    refine r_iconst (v := (-1)) dX12_teach_44 (by decide) ?_
    refine r_iret dX12_teach_45 rfl (Nat.le_refl _) ?_
    refine ⟨_, rfl, ?_, kp.rf hS, ?_⟩
    · rw [teachX, if_neg (fun z => c_5 z.1)]
    · rw [teachW, if_neg (fun z => c_5 z.1)]
      (try rfl)
  · have c_5 := bI_n c_5
    refine r_iload_n dX12_teach_8 rfl rfl ?_
    refine r_callS_dI dX12_teach_9 (s_X12_isPart g _ _) mf_X12_isPart mt_X12_isPart ml_X12_182 rfl rfl (Nat.le_of_ble_eq_true rfl) ⟨(Nat.le_of_ble_eq_true rfl), (Nat.le_of_ble_eq_true rfl)⟩ ⟨(Nat.le_of_ble_eq_true rfl), (Nat.le_of_ble_eq_true rfl)⟩ ?_
    refine r_if_eq (tgt := 44) dX12_teach_12 (by decide) (fun c_12 => ?_) (fun c_12 => ?_)
    · have c_12 := bI_0 c_12
      refine r_iconst (v := (-1)) dX12_teach_44 (by decide) ?_
      refine r_iret dX12_teach_45 rfl (Nat.le_refl _) ?_
      refine ⟨_, rfl, ?_, kp.rf hS, ?_⟩
      · rw [teachX, if_neg (fun z => c_12 z.2.1)]
      · rw [teachW, if_neg (fun z => c_12 z.2.1)]
        (try rfl)
    · have c_12 := bI_n c_12
      refine r_iload_n dX12_teach_15 rfl rfl ?_
      refine r_iconst (v := 0) dX12_teach_16 (by decide) ?_
      refine r_bipush (v := 99) dX12_teach_17 (by decide) ?_
      refine r_callS_dI dX12_teach_19 (s_X12_in1 g _ _ _ _) mf_X12_in1 mt_X12_in1 ml_X12_63 rfl rfl (Nat.le_of_ble_eq_true rfl) ⟨(Nat.le_of_ble_eq_true rfl), (Nat.le_of_ble_eq_true rfl)⟩ ⟨(Nat.le_of_ble_eq_true rfl), (Nat.le_of_ble_eq_true rfl)⟩ ?_
      refine r_if_eq (tgt := 44) dX12_teach_22 (by decide) (fun c_22 => ?_) (fun c_22 => ?_)
      · have c_22 := bI_0 c_22
        refine r_iconst (v := (-1)) dX12_teach_44 (by decide) ?_
        refine r_iret dX12_teach_45 rfl (Nat.le_refl _) ?_
        refine ⟨_, rfl, ?_, kp.rf hS, ?_⟩
        · rw [teachX, if_neg (fun z => c_22 z.2.2)]
        · rw [teachW, if_neg (fun z => c_22 z.2.2)]
          (try rfl)
      · have c_22 := bI_n c_22
        obtain ⟨h8, hpl⟩ := hI.pl
        have h8 : plR (M0 55) ≤ 8 := h8
        have hpl : M0 55 6 = nI (plR (M0 55)) := hpl
        obtain ⟨k, hk, rfl⟩ := rngP (x := x) c_5 h8 hpl
        obtain ⟨j, hj, rfl⟩ := rng (x := p) 7 (by decide) c_12
        refine r_aload_n dX12_teach_25 rfl rfl ?_
        refine r_bipush (v := 16) dX12_teach_26 (by decide) ?_
        refine r_bipush (v := 11) dX12_teach_28 (by decide) ?_
        refine r_iload_n dX12_teach_30 rfl rfl ?_
        refine r_imulN (11) (k) dX12_teach_31 ?_
        refine r_iaddN (16) ((11 * k)) dX12_teach_32 ?_
        refine r_iconst (v := 3) dX12_teach_33 (by decide) ?_
        refine r_iaddN ((16 + (11 * k))) (3) dX12_teach_34 ?_
        refine r_iload_n dX12_teach_35 rfl rfl ?_
        refine r_iaddN (((16 + (11 * k)) + 3)) (j) dX12_teach_36 ?_
        refine r_iload_n dX12_teach_37 rfl rfl ?_
        refine r_callV_dI (ci := 12) dX12_teach_38 (s_X12_becomes g (by exact ⟨rfl, rfl, rfl⟩) ((((16 + (11 * k)) + 3) + j)) (by omega) _) mf_X12_becomes mi_X12_becomes se_X12_X12_X12_becomes ml_X12_179 rfl rfl (Nat.le_of_ble_eq_true rfl) rfl (by decide) rfl (Nat.le_of_ble_eq_true rfl) ⟨(Nat.le_of_ble_eq_true rfl), (Nat.le_of_ble_eq_true rfl)⟩ ⟨(Nat.le_of_ble_eq_true rfl), (Nat.le_of_ble_eq_true rfl)⟩ ?_
        refine r_goto (tgt := 45) dX12_teach_41 (by decide) ?_
        refine r_iret dX12_teach_45 rfl (Nat.le_refl _) ?_
        rw [show ((16 + 11 * k) + 3) + j = 16 + 11 * k + (3 + j) by omega]
        refine ⟨_, rfl, ?_, (kp.rf hS).set (by decide) (by decide), ?_⟩
        · rw [teachX, if_pos (⟨c_5, c_12, c_22⟩), cl_nI (by omega), cl_nI (by omega)]
          (try rfl)
        · rw [mSet_at, teachW, if_pos (⟨c_5, c_12, c_22⟩), cl_nI (by omega), cl_nI (by omega)]
          (try rfl)
set_option maxRecDepth 20000 in
set_option maxHeartbeats 1000000 in
theorem s_X12_sick (g : pG) {S : pS} (hS : sOk S) (hI : InvR (S.2.2.2 55)) (x : Int32) (v : Int32) : MS g mX12_sick 3 0 0 [.ref 54, .int x, .int v] (S) (eI (fun rx S1 => rx = sickX ((S).2.2.2 55) x v ∧ kp [55] (S) S1 ∧ S1.2.2.2 55 = sickW ((S).2.2.2 55) x v)) := by
  obtain ⟨M0, rfl⟩ := sOk_gs hS
  refine MS.of pn_X12 (Nat.le_of_ble_eq_true rfl) ?_
  refine r_aload_n dX12_sick_0 rfl rfl ?_
  refine r_iload_n dX12_sick_1 rfl rfl ?_
  refine r_callV_dI (ci := 12) dX12_sick_2 (s_X12_isPlayer g (by exact ⟨rfl, rfl, rfl⟩) _) mf_X12_isPlayer mi_X12_isPlayer se_X12_X12_X12_isPlayer ml_X12_188 rfl rfl (Nat.le_of_ble_eq_true rfl) rfl (by decide) rfl (Nat.le_of_ble_eq_true rfl) ⟨(Nat.le_of_ble_eq_true rfl), (Nat.le_of_ble_eq_true rfl)⟩ ⟨(Nat.le_of_ble_eq_true rfl), (Nat.le_of_ble_eq_true rfl)⟩ ?_
  refine r_if_eq (tgt := 35) dX12_sick_5 (by decide) (fun c_5 => ?_) (fun c_5 => ?_)
  · have c_5 := bI_0 c_5
    refine r_iconst (v := (-1)) dX12_sick_35 (by decide) ?_
    refine r_iret dX12_sick_36 rfl (Nat.le_refl _) ?_
    refine ⟨_, rfl, ?_, kp.rf hS, ?_⟩
    · rw [sickX, if_neg (fun z => c_5 z.1)]
    · rw [sickW, if_neg (fun z => c_5 z.1)]
      (try rfl)
  · have c_5 := bI_n c_5
    refine r_iload_n dX12_sick_8 rfl rfl ?_
    refine r_iconst (v := 0) dX12_sick_9 (by decide) ?_
    refine r_bipush (v := 9) dX12_sick_10 (by decide) ?_
    refine r_callS_dI dX12_sick_12 (s_X12_in1 g _ _ _ _) mf_X12_in1 mt_X12_in1 ml_X12_63 rfl rfl (Nat.le_of_ble_eq_true rfl) ⟨(Nat.le_of_ble_eq_true rfl), (Nat.le_of_ble_eq_true rfl)⟩ ⟨(Nat.le_of_ble_eq_true rfl), (Nat.le_of_ble_eq_true rfl)⟩ ?_
    refine r_if_eq (tgt := 35) dX12_sick_15 (by decide) (fun c_15 => ?_) (fun c_15 => ?_)
    · have c_15 := bI_0 c_15
      refine r_iconst (v := (-1)) dX12_sick_35 (by decide) ?_
      refine r_iret dX12_sick_36 rfl (Nat.le_refl _) ?_
      refine ⟨_, rfl, ?_, kp.rf hS, ?_⟩
      · rw [sickX, if_neg (fun z => c_15 z.2)]
      · rw [sickW, if_neg (fun z => c_15 z.2)]
        (try rfl)
    · have c_15 := bI_n c_15
      obtain ⟨h8, hpl⟩ := hI.pl
      have h8 : plR (M0 55) ≤ 8 := h8
      have hpl : M0 55 6 = nI (plR (M0 55)) := hpl
      obtain ⟨k, hk, rfl⟩ := rngP (x := x) c_5 h8 hpl
      refine r_aload_n dX12_sick_18 rfl rfl ?_
      refine r_bipush (v := 16) dX12_sick_19 (by decide) ?_
      refine r_bipush (v := 11) dX12_sick_21 (by decide) ?_
      refine r_iload_n dX12_sick_23 rfl rfl ?_
      refine r_imulN (11) (k) dX12_sick_24 ?_
      refine r_iaddN (16) ((11 * k)) dX12_sick_25 ?_
      refine r_iconst (v := 2) dX12_sick_26 (by decide) ?_
      refine r_iaddN ((16 + (11 * k))) (2) dX12_sick_27 ?_
      refine r_iload_n dX12_sick_28 rfl rfl ?_
      refine r_callV_dI (ci := 12) dX12_sick_29 (s_X12_becomes g (by exact ⟨rfl, rfl, rfl⟩) (((16 + (11 * k)) + 2)) (by omega) _) mf_X12_becomes mi_X12_becomes se_X12_X12_X12_becomes ml_X12_179 rfl rfl (Nat.le_of_ble_eq_true rfl) rfl (by decide) rfl (Nat.le_of_ble_eq_true rfl) ⟨(Nat.le_of_ble_eq_true rfl), (Nat.le_of_ble_eq_true rfl)⟩ ⟨(Nat.le_of_ble_eq_true rfl), (Nat.le_of_ble_eq_true rfl)⟩ ?_
      refine r_goto (tgt := 36) dX12_sick_32 (by decide) ?_
      refine r_iret dX12_sick_36 rfl (Nat.le_refl _) ?_
      refine ⟨_, rfl, ?_, (kp.rf hS).set (by decide) (by decide), ?_⟩
      · rw [sickX, if_pos (⟨c_5, c_15⟩), cl_nI (by omega)]
        (try rfl)
      · rw [mSet_at, sickW, if_pos (⟨c_5, c_15⟩), cl_nI (by omega)]
        (try rfl)
set_option maxRecDepth 20000 in
set_option maxHeartbeats 1000000 in
theorem s_X12_seed (g : pG) {S : pS} (hS : sOk S) (hI : InvR (S.2.2.2 55)) (v : Int32) : MS g mX12_seed 2 0 0 [.ref 54, .int v] (S) (eI (fun rx S1 => rx = id (((S).2.2.2 55) 5) ∧ kp [55] (S) S1 ∧ S1.2.2.2 55 = upd ((S).2.2.2 55) 5 v)) := by
  obtain ⟨M0, rfl⟩ := sOk_gs hS
  refine MS.of pn_X12 (Nat.le_of_ble_eq_true rfl) ?_
  refine r_aload_n dX12_seed_0 rfl rfl ?_
  refine r_iconst (v := 5) dX12_seed_1 (by decide) ?_
  refine r_iload_n dX12_seed_2 rfl rfl ?_
  refine r_callV_dI (ci := 12) dX12_seed_3 (s_X12_becomes g (by exact ⟨rfl, rfl, rfl⟩) (5) (by omega) _) mf_X12_becomes mi_X12_becomes se_X12_X12_X12_becomes ml_X12_179 rfl rfl (Nat.le_of_ble_eq_true rfl) rfl (by decide) rfl (Nat.le_of_ble_eq_true rfl) ⟨(Nat.le_of_ble_eq_true rfl), (Nat.le_of_ble_eq_true rfl)⟩ ⟨(Nat.le_of_ble_eq_true rfl), (Nat.le_of_ble_eq_true rfl)⟩ ?_
  refine r_iret dX12_seed_6 rfl (Nat.le_refl _) ?_
  exact ⟨_, rfl, rfl, (kp.rf hS).set (by decide) (by decide), mSet_at⟩
set_option maxRecDepth 20000 in
set_option maxHeartbeats 1000000 in
theorem s_X12_does (g : pG) {S : pS} (hS : sOk S) (hI : InvR (S.2.2.2 55)) (x : Int32) (p : Int32) (w : Int32) : MS g mX12_does 3 0 0 [.ref 54, .int x, .int p, .int w] (S) (eI (fun rx S1 => rx = doesX ((S).2.2.2 55) x p w ∧ kp [] (S) S1)) := by
  obtain ⟨M0, rfl⟩ := sOk_gs hS
  refine MS.of pn_X12 (Nat.le_of_ble_eq_true rfl) ?_
  refine r_aload_n dX12_does_0 rfl rfl ?_
  refine r_iload_n dX12_does_1 rfl rfl ?_
  refine r_callV_dI (ci := 12) dX12_does_2 (s_X12_isPlayer g (by exact ⟨rfl, rfl, rfl⟩) _) mf_X12_isPlayer mi_X12_isPlayer se_X12_X12_X12_isPlayer ml_X12_188 rfl rfl (Nat.le_of_ble_eq_true rfl) rfl (by decide) rfl (Nat.le_of_ble_eq_true rfl) ⟨(Nat.le_of_ble_eq_true rfl), (Nat.le_of_ble_eq_true rfl)⟩ ⟨(Nat.le_of_ble_eq_true rfl), (Nat.le_of_ble_eq_true rfl)⟩ ?_
  refine r_if_eq (tgt := 24) dX12_does_5 (by decide) (fun c_5 => ?_) (fun c_5 => ?_)
  · have c_5 := bI_0 c_5
    refine r_iconst (v := (-1)) dX12_does_24 (by decide) ?_
    refine r_iret dX12_does_25 rfl (Nat.le_refl _) ?_
    refine ⟨_, rfl, ?_, kp.rf hS⟩
    · rw [doesX, if_neg (fun z => c_5 z.1)]
  · have c_5 := bI_n c_5
    refine r_iload_n dX12_does_8 rfl rfl ?_
    refine r_callS_dI dX12_does_9 (s_X12_isPart g _ _) mf_X12_isPart mt_X12_isPart ml_X12_182 rfl rfl (Nat.le_of_ble_eq_true rfl) ⟨(Nat.le_of_ble_eq_true rfl), (Nat.le_of_ble_eq_true rfl)⟩ ⟨(Nat.le_of_ble_eq_true rfl), (Nat.le_of_ble_eq_true rfl)⟩ ?_
    refine r_if_eq (tgt := 24) dX12_does_12 (by decide) (fun c_12 => ?_) (fun c_12 => ?_)
    · have c_12 := bI_0 c_12
      refine r_iconst (v := (-1)) dX12_does_24 (by decide) ?_
      refine r_iret dX12_does_25 rfl (Nat.le_refl _) ?_
      refine ⟨_, rfl, ?_, kp.rf hS⟩
      · rw [doesX, if_neg (fun z => c_12 z.2.1)]
    · have c_12 := bI_n c_12
      refine r_iload_n dX12_does_15 rfl rfl ?_
      refine r_iconst (v := 0) dX12_does_16 (by decide) ?_
      refine r_iconst (v := 2) dX12_does_17 (by decide) ?_
      refine r_callS_dI dX12_does_18 (s_X12_in1 g _ _ _ _) mf_X12_in1 mt_X12_in1 ml_X12_63 rfl rfl (Nat.le_of_ble_eq_true rfl) ⟨(Nat.le_of_ble_eq_true rfl), (Nat.le_of_ble_eq_true rfl)⟩ ⟨(Nat.le_of_ble_eq_true rfl), (Nat.le_of_ble_eq_true rfl)⟩ ?_
      refine r_if_ne (tgt := 26) dX12_does_21 (by decide) (fun c_21 => ?_) (fun c_21 => ?_)
      · have c_21 := bI_n c_21
        obtain ⟨h8, hpl⟩ := hI.pl
        have h8 : plR (M0 55) ≤ 8 := h8
        have hpl : M0 55 6 = nI (plR (M0 55)) := hpl
        obtain ⟨k, hk, rfl⟩ := rngP (x := x) c_5 h8 hpl
        obtain ⟨j, hj, rfl⟩ := rng (x := p) 7 (by decide) c_12
        refine r_sipush (v := 1000) dX12_does_26 (by decide) ?_
        refine r_iload_n dX12_does_29 rfl rfl ?_
        refine r_if_ne (tgt := 42) dX12_does_30 (by decide) (fun c_30 => ?_) (fun c_30 => ?_)
        · refine r_iload_n dX12_does_42 rfl rfl ?_
          refine r_iconst (v := 1) dX12_does_43 (by decide) ?_
          refine r_icmp_ne (tgt := 55) dX12_does_44 (by decide) (fun c_44 => ?_) (fun c_44 => ?_)
          · refine r_aload_n dX12_does_55 rfl rfl ?_
            refine r_iload_n dX12_does_56 rfl rfl ?_
            refine r_callV_dI (ci := 12) dX12_does_57 (s_X12_forgetsOf g (by exact ⟨rfl, rfl, rfl⟩) (k) (by omega)) mf_X12_forgetsOf mi_X12_forgetsOf se_X12_X12_X12_forgetsOf ml_X12_96 rfl rfl (Nat.le_of_ble_eq_true rfl) rfl (by decide) rfl (Nat.le_of_ble_eq_true rfl) ⟨(Nat.le_of_ble_eq_true rfl), (Nat.le_of_ble_eq_true rfl)⟩ ⟨(Nat.le_of_ble_eq_true rfl), (Nat.le_of_ble_eq_true rfl)⟩ ?_
            refine r_iadd dX12_does_60 ?_
            refine r_iret dX12_does_61 rfl (Nat.le_refl _) ?_
            refine ⟨_, rfl, ?_, kp.rf hS⟩
            rw [doesX, if_pos (⟨c_5, c_12, c_21⟩), cl_nI (by omega), if_neg c_30, if_neg c_44]
          · refine r_aload_n dX12_does_47 rfl rfl ?_
            refine r_iload_n dX12_does_48 rfl rfl ?_
            refine r_callV_dI (ci := 12) dX12_does_49 (s_X12_learnsOf g (by exact ⟨rfl, rfl, rfl⟩) (k) (by omega)) mf_X12_learnsOf mi_X12_learnsOf se_X12_X12_X12_learnsOf ml_X12_92 rfl rfl (Nat.le_of_ble_eq_true rfl) rfl (by decide) rfl (Nat.le_of_ble_eq_true rfl) ⟨(Nat.le_of_ble_eq_true rfl), (Nat.le_of_ble_eq_true rfl)⟩ ⟨(Nat.le_of_ble_eq_true rfl), (Nat.le_of_ble_eq_true rfl)⟩ ?_
            refine r_goto (tgt := 60) dX12_does_52 (by decide) ?_
            refine r_iadd dX12_does_60 ?_
            refine r_iret dX12_does_61 rfl (Nat.le_refl _) ?_
            refine ⟨_, rfl, ?_, kp.rf hS⟩
            rw [doesX, if_pos (⟨c_5, c_12, c_21⟩), cl_nI (by omega), if_neg c_30, if_pos c_44]
        · refine r_aload_n dX12_does_33 rfl rfl ?_
          refine r_iload_n dX12_does_34 rfl rfl ?_
          refine r_iload_n dX12_does_35 rfl rfl ?_
          refine r_callV_dI (ci := 12) dX12_does_36 (s_X12_goodAt g (by exact ⟨rfl, rfl, rfl⟩) (k) (j) (by omega) (by omega)) mf_X12_goodAt mi_X12_goodAt se_X12_X12_X12_goodAt ml_X12_71 rfl rfl (Nat.le_of_ble_eq_true rfl) rfl (by decide) rfl (Nat.le_of_ble_eq_true rfl) ⟨(Nat.le_of_ble_eq_true rfl), (Nat.le_of_ble_eq_true rfl)⟩ ⟨(Nat.le_of_ble_eq_true rfl), (Nat.le_of_ble_eq_true rfl)⟩ ?_
          refine r_goto (tgt := 60) dX12_does_39 (by decide) ?_
          refine r_iadd dX12_does_60 ?_
          refine r_iret dX12_does_61 rfl (Nat.le_refl _) ?_
          refine ⟨_, rfl, ?_, kp.rf hS⟩
          rw [doesX, if_pos (⟨c_5, c_12, c_21⟩), cl_nI (by omega), if_pos c_30, cl_nI (by omega)]
      · have c_21 := bI_0 c_21
        refine r_iconst (v := (-1)) dX12_does_24 (by decide) ?_
        refine r_iret dX12_does_25 rfl (Nat.le_refl _) ?_
        refine ⟨_, rfl, ?_, kp.rf hS⟩
        · rw [doesX, if_neg (fun z => c_21 z.2.2)]
set_option maxRecDepth 20000 in
set_option maxHeartbeats 1000000 in
theorem s_X12_partOf (g : pG) {S : pS} (hS : sOk S) (hI : InvR (S.2.2.2 55)) (p : Int32) (w : Int32) : MS g mX12_partOf 5 0 0 [.ref 54, .int p, .int w] (S) (eI (fun rx S1 => rx = partX ((S).2.2.2 55) p w ∧ kp [59, 60] (S) S1)) := by
  obtain ⟨M0, rfl⟩ := sOk_gs hS
  refine MS.of pn_X12 (Nat.le_of_ble_eq_true rfl) ?_
  refine r_iload_n dX12_partOf_0 rfl rfl ?_
  refine r_callS_dI dX12_partOf_1 (s_X12_isPart g _ _) mf_X12_isPart mt_X12_isPart ml_X12_182 rfl rfl (Nat.le_of_ble_eq_true rfl) ⟨(Nat.le_of_ble_eq_true rfl), (Nat.le_of_ble_eq_true rfl)⟩ ⟨(Nat.le_of_ble_eq_true rfl), (Nat.le_of_ble_eq_true rfl)⟩ ?_
  refine r_if_eq (tgt := 16) dX12_partOf_4 (by decide) (fun c_4 => ?_) (fun c_4 => ?_)
  · have c_4 := bI_0 c_4
    refine r_iconst (v := (-1)) dX12_partOf_16 (by decide) ?_
    refine r_iret dX12_partOf_17 rfl (Nat.le_refl _) ?_
    refine ⟨_, rfl, ?_, kp.rf hS⟩
    · rw [partX, if_neg (fun z => c_4 z.1)]
  · have c_4 := bI_n c_4
    refine r_iload_n dX12_partOf_7 rfl rfl ?_
    refine r_iconst (v := 0) dX12_partOf_8 (by decide) ?_
    refine r_iconst (v := 2) dX12_partOf_9 (by decide) ?_
    refine r_callS_dI dX12_partOf_10 (s_X12_in1 g _ _ _ _) mf_X12_in1 mt_X12_in1 ml_X12_63 rfl rfl (Nat.le_of_ble_eq_true rfl) ⟨(Nat.le_of_ble_eq_true rfl), (Nat.le_of_ble_eq_true rfl)⟩ ⟨(Nat.le_of_ble_eq_true rfl), (Nat.le_of_ble_eq_true rfl)⟩ ?_
    refine r_if_ne (tgt := 18) dX12_partOf_13 (by decide) (fun c_13 => ?_) (fun c_13 => ?_)
    · have c_13 := bI_n c_13
      refine r_aload_n dX12_partOf_18 rfl rfl ?_
      refine r_callV_eV (ci := 12) dX12_partOf_19 (s_X12_bills g hS hI) mf_X12_bills mi_X12_bills se_X12_X12_X12_bills ml_X12_78 rfl rfl (Nat.le_of_ble_eq_true rfl) rfl (by decide) rfl (Nat.le_of_ble_eq_true rfl) ⟨(Nat.le_of_ble_eq_true rfl), (Nat.le_of_ble_eq_true rfl)⟩ ⟨(Nat.le_of_ble_eq_true rfl), (Nat.le_of_ble_eq_true rfl)⟩ (fun S_19 q_19 z_19 => ?_)
      obtain ⟨hk1, hc1⟩ := q_19
      obtain ⟨M1, rfl⟩ := sOk_gs hk1.1
      have e55 : M1 55 = M0 55 := hk1.2.1 55 (by decide) (by decide)
      have hI1 : InvR (M1 55) := e55 ▸ hI
      refine r_iload_n dX12_partOf_22 rfl rfl ?_
      refine r_if_ne (tgt := 38) dX12_partOf_23 (by decide) (fun c_23 => ?_) (fun c_23 => ?_)
      · refine r_iload_n dX12_partOf_38 rfl rfl ?_
        refine r_iconst (v := 1) dX12_partOf_39 (by decide) ?_
        refine r_icmp_ne (tgt := 54) dX12_partOf_40 (by decide) (fun c_40 => ?_) (fun c_40 => ?_)
        · refine r_aload_n dX12_partOf_54 rfl rfl ?_
          refine r_iload_n dX12_partOf_55 rfl rfl ?_
          refine r_callV_dI (ci := 12) dX12_partOf_56 (s_X12_ownersOf g hk1.1 hI1 _) mf_X12_ownersOf mi_X12_ownersOf se_X12_X12_X12_ownersOf ml_X12_185 rfl rfl (Nat.le_of_ble_eq_true rfl) rfl (by decide) rfl (Nat.le_of_ble_eq_true rfl) ⟨(Nat.le_of_ble_eq_true rfl), (Nat.le_of_ble_eq_true rfl)⟩ ⟨(Nat.le_of_ble_eq_true rfl), (Nat.le_of_ble_eq_true rfl)⟩ ?_
          refine r_iret dX12_partOf_59 rfl (Nat.le_refl _) ?_
          refine ⟨_, rfl, ?_, hk1⟩
          rw [partX, if_pos (⟨c_4, c_13⟩), if_neg c_23, if_neg c_40]
          show ownersR (M1 55) p (plR (M1 55)) = _
          rw [e55]
          (try rfl)
        · obtain ⟨j, hj, rfl⟩ := rng (x := p) 7 (by decide) c_4
          refine r_aload_n dX12_partOf_43 rfl rfl ?_
          refine r_getR (q := 59) dX12_partOf_44 (ci := 12) (kf := 5) rfl (Nat.le_of_ble_eq_true rfl) (by decide) (by decide) rfl fl_X12_22 (Or.inl rfl) rfl ?_
          refine r_iload_n dX12_partOf_47 rfl rfl ?_
          refine r_iald (j := j) dX12_partOf_48 rfl (Nat.le_of_ble_eq_true rfl) rfl (by omega) (by decide) ?_
          refine r_iconst (v := 1) dX12_partOf_49 (by decide) ?_
          refine r_iadd dX12_partOf_50 ?_
          refine r_goto (tgt := 59) dX12_partOf_51 (by decide) ?_
          refine r_iret dX12_partOf_59 rfl (Nat.le_refl _) ?_
          refine ⟨_, rfl, ?_, hk1⟩
          rw [partX, if_pos (⟨c_4, c_13⟩), if_neg c_23, if_pos c_40, cl_nI (by omega)]
          exact congrArg (fun y => y + 1) (hc1 j (by omega)).1
      · obtain ⟨j, hj, rfl⟩ := rng (x := p) 7 (by decide) c_4
        refine r_aload_n dX12_partOf_26 rfl rfl ?_
        refine r_getR (q := 55) dX12_partOf_27 (ci := 12) (kf := 0) rfl (Nat.le_of_ble_eq_true rfl) (by decide) (by decide) rfl fl_X12_9 (Or.inl rfl) rfl ?_
        refine r_bipush (v := 8) dX12_partOf_30 (by decide) ?_
        refine r_iload_n dX12_partOf_32 rfl rfl ?_
        refine r_iaddN (8) (j) dX12_partOf_33 ?_
        refine r_iald (j := (8 + j)) dX12_partOf_34 rfl (Nat.le_of_ble_eq_true rfl) rfl (by omega) (by decide) ?_
        refine r_goto (tgt := 59) dX12_partOf_35 (by decide) ?_
        refine r_iret dX12_partOf_59 rfl (Nat.le_refl _) ?_
        refine ⟨_, rfl, ?_, hk1⟩
        rw [partX, if_pos (⟨c_4, c_13⟩), if_pos c_23, cl_nI (by omega)]
        exact congrFun e55 _
    · have c_13 := bI_0 c_13
      refine r_iconst (v := (-1)) dX12_partOf_16 (by decide) ?_
      refine r_iret dX12_partOf_17 rfl (Nat.le_refl _) ?_
      refine ⟨_, rfl, ?_, kp.rf hS⟩
      · rw [partX, if_neg (fun z => c_13 z.2)]
set_option maxRecDepth 20000 in
set_option maxHeartbeats 1000000 in
theorem s_X12_of (g : pG) {S : pS} (hS : sOk S) (hI : InvR (S.2.2.2 55)) (x : Int32) (w : Int32) : MS g mX12_of 5 0 0 [.ref 54, .int x, .int w] (S) (eI (fun rx S1 => rx = ofX ((S).2.2.2 55) x w ∧ kp [59, 60] (S) S1)) := by
  obtain ⟨M0, rfl⟩ := sOk_gs hS
  refine MS.of pn_X12 (Nat.le_of_ble_eq_true rfl) ?_
  refine r_aload_n dX12_of_0 rfl rfl ?_
  refine r_iload_n dX12_of_1 rfl rfl ?_
  refine r_callV_dI (ci := 12) dX12_of_2 (s_X12_isPlayer g (by exact ⟨rfl, rfl, rfl⟩) _) mf_X12_isPlayer mi_X12_isPlayer se_X12_X12_X12_isPlayer ml_X12_188 rfl rfl (Nat.le_of_ble_eq_true rfl) rfl (by decide) rfl (Nat.le_of_ble_eq_true rfl) ⟨(Nat.le_of_ble_eq_true rfl), (Nat.le_of_ble_eq_true rfl)⟩ ⟨(Nat.le_of_ble_eq_true rfl), (Nat.le_of_ble_eq_true rfl)⟩ ?_
  refine r_if_eq (tgt := 17) dX12_of_5 (by decide) (fun c_5 => ?_) (fun c_5 => ?_)
  · have c_5 := bI_0 c_5
    refine r_iconst (v := (-1)) dX12_of_17 (by decide) ?_
    refine r_iret dX12_of_18 rfl (Nat.le_refl _) ?_
    refine ⟨_, rfl, ?_, kp.rf hS⟩
    · rw [ofX, if_neg (fun z => c_5 z.1)]
  · have c_5 := bI_n c_5
    refine r_iload_n dX12_of_8 rfl rfl ?_
    refine r_iconst (v := 0) dX12_of_9 (by decide) ?_
    refine r_iconst (v := 3) dX12_of_10 (by decide) ?_
    refine r_callS_dI dX12_of_11 (s_X12_in1 g _ _ _ _) mf_X12_in1 mt_X12_in1 ml_X12_63 rfl rfl (Nat.le_of_ble_eq_true rfl) ⟨(Nat.le_of_ble_eq_true rfl), (Nat.le_of_ble_eq_true rfl)⟩ ⟨(Nat.le_of_ble_eq_true rfl), (Nat.le_of_ble_eq_true rfl)⟩ ?_
    refine r_if_ne (tgt := 19) dX12_of_14 (by decide) (fun c_14 => ?_) (fun c_14 => ?_)
    · have c_14 := bI_n c_14
      obtain ⟨h8, hpl⟩ := hI.pl
      have h8 : plR (M0 55) ≤ 8 := h8
      have hpl : M0 55 6 = nI (plR (M0 55)) := hpl
      obtain ⟨k, hk, rfl⟩ := rngP (x := x) c_5 h8 hpl
      refine r_aload_n dX12_of_19 rfl rfl ?_
      refine r_callV_eV (ci := 12) dX12_of_20 (s_X12_bills g hS hI) mf_X12_bills mi_X12_bills se_X12_X12_X12_bills ml_X12_78 rfl rfl (Nat.le_of_ble_eq_true rfl) rfl (by decide) rfl (Nat.le_of_ble_eq_true rfl) ⟨(Nat.le_of_ble_eq_true rfl), (Nat.le_of_ble_eq_true rfl)⟩ ⟨(Nat.le_of_ble_eq_true rfl), (Nat.le_of_ble_eq_true rfl)⟩ (fun S_20 q_20 z_20 => ?_)
      obtain ⟨hk1, hc1⟩ := q_20
      obtain ⟨M1, rfl⟩ := sOk_gs hk1.1
      have e55 : M1 55 = M0 55 := hk1.2.1 55 (by decide) (by decide)
      have hI1 : InvR (M1 55) := e55 ▸ hI
      refine r_iload_n dX12_of_23 rfl rfl ?_
      refine r_iconst (v := 3) dX12_of_24 (by decide) ?_
      refine r_icmp_ge (tgt := 37) dX12_of_25 (by decide) (fun c_25 => ?_) (fun c_25 => ?_)
      · refine r_aload_n dX12_of_37 rfl rfl ?_
        refine r_getR (q := 60) dX12_of_38 (ci := 12) (kf := 6) rfl (Nat.le_of_ble_eq_true rfl) (by decide) (by decide) rfl fl_X12_25 (Or.inl rfl) rfl ?_
        refine r_iload_n dX12_of_41 rfl rfl ?_
        refine r_iald (j := k) dX12_of_42 rfl (Nat.le_of_ble_eq_true rfl) rfl (by omega) (by decide) ?_
        refine r_iret dX12_of_43 rfl (Nat.le_refl _) ?_
        refine ⟨_, rfl, ?_, hk1⟩
        rw [ofX, if_pos (⟨c_5, c_14⟩), if_pos c_25, cl_nI (by omega)]
        exact (hc1 k (by omega)).2
      · obtain ⟨j, hj, rfl⟩ := rng (x := w) 3 (by decide) c_14
        have hj3 : j < 3 := by
          rcases Nat.lt_or_ge j 3 with h | h
          · exact h
          · exact absurd (nI_le h (by omega)) c_25
        refine r_aload_n dX12_of_28 rfl rfl ?_
        refine r_iload_n dX12_of_29 rfl rfl ?_
        refine r_iload_n dX12_of_30 rfl rfl ?_
        refine r_callV_dI (ci := 12) dX12_of_31 (s_X12_get g (by exact ⟨rfl, rfl, rfl⟩) (k) (j) (by omega) (by omega)) mf_X12_get mi_X12_get se_X12_X12_X12_get ml_X12_67 rfl rfl (Nat.le_of_ble_eq_true rfl) rfl (by decide) rfl (Nat.le_of_ble_eq_true rfl) ⟨(Nat.le_of_ble_eq_true rfl), (Nat.le_of_ble_eq_true rfl)⟩ ⟨(Nat.le_of_ble_eq_true rfl), (Nat.le_of_ble_eq_true rfl)⟩ ?_
        refine r_goto (tgt := 43) dX12_of_34 (by decide) ?_
        refine r_iret dX12_of_43 rfl (Nat.le_refl _) ?_
        refine ⟨_, rfl, ?_, hk1⟩
        rw [ofX, if_pos (⟨c_5, c_14⟩), if_neg c_25, cl_nI (by omega), cl_nI (by omega)]
        exact congrFun e55 _
    · have c_14 := bI_0 c_14
      refine r_iconst (v := (-1)) dX12_of_17 (by decide) ?_
      refine r_iret dX12_of_18 rfl (Nat.le_refl _) ?_
      refine ⟨_, rfl, ?_, kp.rf hS⟩
      · rw [ofX, if_neg (fun z => c_14 z.2)]
set_option maxRecDepth 20000 in
set_option maxHeartbeats 1000000 in
theorem s_X12_player (g : pG) {S : pS} (hS : sOk S) (hI : InvR (S.2.2.2 55)) (kd : Int32) (p : Int32) : MS g mX12_player 3 0 0 [.ref 54, .int kd, .int p] (S) (eI (fun rx S1 => rx = playerX ((S).2.2.2 55) kd p ∧ kp [55] (S) S1 ∧ S1.2.2.2 55 = playerW ((S).2.2.2 55) kd p)) := by
  obtain ⟨M0, rfl⟩ := sOk_gs hS
  refine MS.of pn_X12 (Nat.le_of_ble_eq_true rfl) ?_
  refine r_iload_n dX12_player_0 rfl rfl ?_
  refine r_iconst (v := 0) dX12_player_1 (by decide) ?_
  refine r_iconst (v := 5) dX12_player_2 (by decide) ?_
  refine r_callS_dI dX12_player_3 (s_X12_in1 g _ _ _ _) mf_X12_in1 mt_X12_in1 ml_X12_63 rfl rfl (Nat.le_of_ble_eq_true rfl) ⟨(Nat.le_of_ble_eq_true rfl), (Nat.le_of_ble_eq_true rfl)⟩ ⟨(Nat.le_of_ble_eq_true rfl), (Nat.le_of_ble_eq_true rfl)⟩ ?_
  refine r_if_eq (tgt := 16) dX12_player_6 (by decide) (fun c_6 => ?_) (fun c_6 => ?_)
  · have c_6 := bI_0 c_6
    refine r_iconst (v := (-1)) dX12_player_16 (by decide) ?_
    refine r_iret dX12_player_17 rfl (Nat.le_refl _) ?_
    refine ⟨_, rfl, ?_, kp.rf hS, ?_⟩
    · rw [playerX, if_neg (fun z => c_6 z.1)]
    · rw [playerW, if_neg (fun z => c_6 z.1)]
      (try rfl)
  · have c_6 := bI_n c_6
    refine r_iload_n dX12_player_9 rfl rfl ?_
    refine r_callS_dI dX12_player_10 (s_X12_isPart g _ _) mf_X12_isPart mt_X12_isPart ml_X12_182 rfl rfl (Nat.le_of_ble_eq_true rfl) ⟨(Nat.le_of_ble_eq_true rfl), (Nat.le_of_ble_eq_true rfl)⟩ ⟨(Nat.le_of_ble_eq_true rfl), (Nat.le_of_ble_eq_true rfl)⟩ ?_
    refine r_if_ne (tgt := 18) dX12_player_13 (by decide) (fun c_13 => ?_) (fun c_13 => ?_)
    · have c_13 := bI_n c_13
      refine r_aload_n dX12_player_18 rfl rfl ?_
      refine r_getR (q := 55) dX12_player_19 (ci := 12) (kf := 0) rfl (Nat.le_of_ble_eq_true rfl) (by decide) (by decide) rfl fl_X12_9 (Or.inl rfl) rfl ?_
      refine r_bipush (v := 6) dX12_player_22 (by decide) ?_
      refine r_iald (j := 6) dX12_player_24 rfl (Nat.le_of_ble_eq_true rfl) rfl (by decide) (by decide) ?_
      refine r_bipush (v := 8) dX12_player_25 (by decide) ?_
      refine r_icmp_ne (tgt := 33) dX12_player_27 (by decide) (fun c_27 => ?_) (fun c_27 => ?_)
      · obtain ⟨h8, hpl⟩ := hI.pl
        have h8 : plR (M0 55) ≤ 8 := h8
        have hpl : M0 55 6 = nI (plR (M0 55)) := hpl
        have h7 : plR (M0 55) < 8 := by
          rcases Nat.lt_or_ge (plR (M0 55)) 8 with h | h
          · exact h
          · exact absurd (by show M0 55 6 = 8; rw [hpl, show plR (M0 55) = 8 by omega]; rfl) c_27
        obtain ⟨j, hj, rfl⟩ := rng (x := p) 7 (by decide) c_13
        refine r_aload_n dX12_player_33 rfl rfl ?_
        refine r_getR (q := 55) dX12_player_34 (ci := 12) (kf := 0) rfl (Nat.le_of_ble_eq_true rfl) (by decide) (by decide) rfl fl_X12_9 (Or.inl rfl) rfl ?_
        refine r_bipush (v := 6) dX12_player_37 (by decide) ?_
        refine r_iald (j := 6) dX12_player_39 rfl (Nat.le_of_ble_eq_true rfl) rfl (by decide) (by decide) ?_
        rw [show (Gs M0).2.2.2 55 6 = nI (plR (M0 55)) from hpl]
        refine r_istore_n dX12_player_40 rfl (by decide) ?_
        refine r_iconst (v := 0) dX12_player_41 (by decide) ?_
        refine r_istore dX12_player_42 (by decide) ?_
        have lp : ∀ (j_ : Nat) (i : Nat) (S1 : pS) (hk : kp [55] (Gs M0) S1) (hv : ∀ y, S1.2.2.2 55 y = if 16 + 11 * plR (M0 55) ≤ y ∧ y < 16 + 11 * plR (M0 55) + i then 0 else M0 55 y) (hi : i ≤ 11), 11 - i < j_ → PW g mX12_player (eN g (Gs M0).1 3 0 0 (eI (fun rx S1 => rx = playerX ((Gs M0).2.2.2 55) kd (nI j) ∧ kp [55] (Gs M0) S1 ∧ S1.2.2.2 55 = playerW ((Gs M0).2.2.2 55) kd (nI j)))) 44 [some (.ref 54), some (.int kd), some (.int (nI j)), some (.int (nI (plR (M0 55)))), some (.int (nI i))] [] (S1) 0 0 := by
          intro j_
          induction j_ with
          | zero => intro i S1 hk hv hi hj; exact absurd hj (Nat.not_lt_zero _)
          | succ j_ ih =>
            intro i S1 hk hv hi hj
            obtain ⟨M, rfl⟩ := sOk_gs hk.1
            refine r_iload dX12_player_44 rfl ?_
            refine r_bipush (v := 11) dX12_player_46 (by decide) ?_
            refine r_icmp_geN (i) (11) (tgt := 65) dX12_player_48 (by decide) (by omega) (by omega) (fun c_48 => ?_) (fun c_48 => ?_)
            · refine r_aload_n dX12_player_65 rfl rfl ?_
              refine r_iload_n dX12_player_66 rfl rfl ?_
              refine r_iconst (v := 0) dX12_player_67 (by decide) ?_
              refine r_iload_n dX12_player_68 rfl rfl ?_
              refine r_callV_dV (ci := 12) dX12_player_69 (s_X12_puts g (by exact ⟨rfl, rfl, rfl⟩) ((plR (M0 55))) (0) (by omega) (by omega) _) mf_X12_puts mi_X12_puts se_X12_X12_X12_puts ml_X12_88 rfl rfl (Nat.le_of_ble_eq_true rfl) rfl (by decide) rfl (Nat.le_of_ble_eq_true rfl) ⟨(Nat.le_of_ble_eq_true rfl), (Nat.le_of_ble_eq_true rfl)⟩ ⟨(Nat.le_of_ble_eq_true rfl), (Nat.le_of_ble_eq_true rfl)⟩ ?_
              refine r_aload_n dX12_player_72 rfl rfl ?_
              refine r_iload_n dX12_player_73 rfl rfl ?_
              refine r_iconst (v := 1) dX12_player_74 (by decide) ?_
              refine r_iload_n dX12_player_75 rfl rfl ?_
              refine r_callV_dV (ci := 12) dX12_player_76 (s_X12_puts g (by exact ⟨rfl, rfl, rfl⟩) ((plR (M0 55))) (1) (by omega) (by omega) _) mf_X12_puts mi_X12_puts se_X12_X12_X12_puts ml_X12_88 rfl rfl (Nat.le_of_ble_eq_true rfl) rfl (by decide) rfl (Nat.le_of_ble_eq_true rfl) ⟨(Nat.le_of_ble_eq_true rfl), (Nat.le_of_ble_eq_true rfl)⟩ ⟨(Nat.le_of_ble_eq_true rfl), (Nat.le_of_ble_eq_true rfl)⟩ ?_
              refine r_aload_n dX12_player_79 rfl rfl ?_
              refine r_iload_n dX12_player_80 rfl rfl ?_
              refine r_iconst (v := 3) dX12_player_81 (by decide) ?_
              refine r_iload_n dX12_player_82 rfl rfl ?_
              refine r_iaddN (3) (j) dX12_player_83 ?_
              refine r_bipush (v := 60) dX12_player_84 (by decide) ?_
              refine r_callV_dV (ci := 12) dX12_player_86 (s_X12_puts g (by exact ⟨rfl, rfl, rfl⟩) ((plR (M0 55))) ((3 + j)) (by omega) (by omega) _) mf_X12_puts mi_X12_puts se_X12_X12_X12_puts ml_X12_88 rfl rfl (Nat.le_of_ble_eq_true rfl) rfl (by decide) rfl (Nat.le_of_ble_eq_true rfl) ⟨(Nat.le_of_ble_eq_true rfl), (Nat.le_of_ble_eq_true rfl)⟩ ⟨(Nat.le_of_ble_eq_true rfl), (Nat.le_of_ble_eq_true rfl)⟩ ?_
              refine r_aload_n dX12_player_89 rfl rfl ?_
              refine r_getR (q := 55) dX12_player_90 (ci := 12) (kf := 0) rfl (Nat.le_of_ble_eq_true rfl) (by decide) (by decide) rfl fl_X12_9 (Or.inl rfl) rfl ?_
              refine r_bipush (v := 6) dX12_player_93 (by decide) ?_
              refine r_dup2 dX12_player_95 rfl rfl ?_
              refine r_iald (j := 6) dX12_player_96 rfl (Nat.le_of_ble_eq_true rfl) rfl (by decide) (by decide) ?_
              refine r_iconst (v := 1) dX12_player_97 (by decide) ?_
              refine r_iadd dX12_player_98 ?_
              refine r_iast (j := 6) dX12_player_99 rfl (Nat.le_of_ble_eq_true rfl) rfl (by decide) (by decide) ?_
              refine r_iload_n dX12_player_100 rfl rfl ?_
              refine r_iret dX12_player_101 rfl (Nat.le_refl _) ?_
              refine ⟨_, rfl, ?_, ?_, ?_⟩
              · rw [playerX, if_pos ⟨c_6, c_13⟩, if_neg c_27]
                exact hpl.symm
              · exact (((hk.set (by decide) (by decide)).set (by decide) (by decide)).set (by decide) (by decide)).set (by decide) (by decide)
              · rw [playerW, if_pos ⟨c_6, c_13⟩, if_neg c_27, cl_nI (by omega)]
                simp only [mSet_at]
                funext y
                have h := hv y
                have h6 := hv 6
                simp only [Gs] at h h6
                rw [if_neg (by omega)] at h6
                show upd (upd (upd (upd (M 55) _ _) _ _) _ _) 6 (upd (upd (upd (M 55) _ _) _ _) _ _ 6 + 1) y = plyNew (M0 55) (plR (M0 55)) j kd y
                rw [pk_un (show 6 ≠ 16 + 11 * plR (M0 55) + (3 + j) by omega), pk_un (show 6 ≠ 16 + 11 * plR (M0 55) + 1 by omega), pk_un (show 6 ≠ 16 + 11 * plR (M0 55) + 0 by omega), h6]
                unfold plyNew
                simp only [upd, h]
                by_cases e6 : y = 6
                · rw [if_pos e6, if_pos e6]
                · rw [if_neg e6, if_neg e6]
                  by_cases e3 : y = 16 + 11 * plR (M0 55) + (3 + j)
                  · rw [if_pos e3, if_pos e3]
                  · rw [if_neg e3, if_neg e3]
                    by_cases e1 : y = 16 + 11 * plR (M0 55) + 1
                    · rw [if_pos e1, if_pos e1]
                    · rw [if_neg e1, if_neg e1]
                      by_cases e0 : y = 16 + 11 * plR (M0 55) + 0
                      · rw [if_pos e0, if_pos e0]
                      · rw [if_neg e0, if_neg e0]
                        have e11 : i = 11 := by omega
                        subst e11
                        rfl
            · refine r_aload_n dX12_player_51 rfl rfl ?_
              refine r_iload_n dX12_player_52 rfl rfl ?_
              refine r_iload dX12_player_53 rfl ?_
              refine r_iconst (v := 0) dX12_player_55 (by decide) ?_
              refine r_callV_dV (ci := 12) dX12_player_56 (s_X12_puts g (by exact ⟨rfl, rfl, rfl⟩) ((plR (M0 55))) (i) (by omega) (by omega) _) mf_X12_puts mi_X12_puts se_X12_X12_X12_puts ml_X12_88 rfl rfl (Nat.le_of_ble_eq_true rfl) rfl (by decide) rfl (Nat.le_of_ble_eq_true rfl) ⟨(Nat.le_of_ble_eq_true rfl), (Nat.le_of_ble_eq_true rfl)⟩ ⟨(Nat.le_of_ble_eq_true rfl), (Nat.le_of_ble_eq_true rfl)⟩ ?_
              refine r_iinc (v := nI (i + 1)) dX12_player_59 rfl (nI_1 _) (by decide) ?_
              refine r_goto (tgt := 44) dX12_player_62 (by decide) ?_
              refine PW.subL (ih (i + 1) _ ?_ ?_ (by omega) (by omega)) (by repeat' first | exact True.intro | refine And.intro rfl ?_)
              · exact hk.set (by decide) (by decide)
              · intro y
                have h := hv y
                simp only [Gs] at h
                rw [mSet_at]
                simp only [upd, Gs, h]
                by_cases e1 : y = 16 + 11 * plR (M0 55) + i
                · rw [if_pos e1, if_pos (by omega)]
                · rw [if_neg e1]
                  by_cases e2 : 16 + 11 * plR (M0 55) ≤ y ∧ y < 16 + 11 * plR (M0 55) + i
                  · rw [if_pos e2, if_pos (by omega)]
                  · rw [if_neg e2, if_neg (by omega)]
        exact PW.subL (lp 12 0 _ (kp.rf hS) (fun y => by rw [if_neg (by omega)]; rfl) (by omega) (by omega)) (by repeat' first | exact True.intro | refine And.intro rfl ?_)
      · refine r_bipush (v := (-2)) dX12_player_30 (by decide) ?_
        refine r_iret dX12_player_32 rfl (Nat.le_refl _) ?_
        refine ⟨_, rfl, ?_, kp.rf hS, ?_⟩
        · rw [playerX, if_pos (⟨c_6, c_13⟩), if_pos c_27]
        · rw [playerW, if_pos (⟨c_6, c_13⟩), if_pos c_27]
    · have c_13 := bI_0 c_13
      refine r_iconst (v := (-1)) dX12_player_16 (by decide) ?_
      refine r_iret dX12_player_17 rfl (Nat.le_refl _) ?_
      refine ⟨_, rfl, ?_, kp.rf hS, ?_⟩
      · rw [playerX, if_neg (fun z => c_13 z.2)]
      · rw [playerW, if_neg (fun z => c_13 z.2)]
        (try rfl)
