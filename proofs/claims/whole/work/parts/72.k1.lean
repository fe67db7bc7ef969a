/-! ===== the class's own calls ===== -/
theorem i_pred {x : Int32} (n : Nat) (hn : n + 1 < 2 ^ 31) (h : ¬ nI (n + 1) ≤ x) : x ≤ nI n := by
  rw [Int32.le_iff_toInt_le, nI_toInt hn] at h
  rw [Int32.le_iff_toInt_le, nI_toInt (by omega)]
  omega
theorem i_no {x : Int32} (n : Nat) (hn : n + 1 < 2 ^ 31) (h : nI (n + 1) ≤ x) : ¬ x ≤ nI n := by
  rw [Int32.le_iff_toInt_le, nI_toInt hn] at h
  rw [Int32.le_iff_toInt_le, nI_toInt (by omega)]
  omega
theorem pl_iff {w x : Int32} {n : Nat} (h : n < 2 ^ 30) (hw : w = nI n) : ¬ w ≤ x ↔ x ≤ w - 1 := by
  subst hw
  have e : nI n - 1 = nI n - nI 1 := rfl
  rw [e, Int32.le_iff_toInt_le, Int32.le_iff_toInt_le, pk_sub_toInt (by omega) (by omega), nI_toInt (by omega)]
  omega
theorem lawMost {j : Nat} (h : j ≤ 3) : kF 1 j = (if 2 ≤ nI j then 99 else 9) := by
  rcases (by omega : j = 0 ∨ j = 1 ∨ j = 2 ∨ j = 3) with rfl | rfl | rfl | rfl <;> decide
theorem sw_no {x hi : Int32} (n : Nat) (hM : hi.toInt = (n : Int)) (h : ∀ j, j ≤ n → ¬ x = nI j) : ¬ (0 ≤ x ∧ x ≤ hi) := fun z => by
  obtain ⟨j, hj, e⟩ := rng n hM z
  exact h j hj e
abbrev nowS (S : pS) : Nat → Int32 := vw S 1
set_option maxRecDepth 20000 in
set_option maxHeartbeats 1000000 in
theorem s_X11_isLaw (g : pG) (x : Int32) (S : pS) : MS g mX11_isLaw 1 0 0 [.int x] (S) (dI (bI (0 ≤ x ∧ x ≤ 3)) S) := by
  refine MS.of pn_X11 (Nat.le_of_ble_eq_true rfl) ?_
  refine r_iload_n dX11_isLaw_0 rfl rfl ?_
  refine r_if_lt (tgt := 13) dX11_isLaw_1 (by decide) (fun c_1 => ?_) (fun c_1 => ?_)
  · (try dsimp only [Gs_M] at c_1)
    refine r_iconst (v := 0) dX11_isLaw_13 (by decide) ?_
    refine r_zret dX11_isLaw_14 rfl rfl (Nat.le_refl _) ?_
    (try dsimp only [Gs_M])
    exact dI_f (fun z => Int32.not_lt.mpr z.1 c_1)
  · (try dsimp only [Gs_M] at c_1)
    refine r_iload_n dX11_isLaw_4 rfl rfl ?_
    refine r_iconst (v := 4) dX11_isLaw_5 (by decide) ?_
    refine r_icmp_ge (tgt := 13) dX11_isLaw_6 (by decide) (fun c_6 => ?_) (fun c_6 => ?_)
    · (try dsimp only [Gs_M] at c_6)
      refine r_iconst (v := 0) dX11_isLaw_13 (by decide) ?_
      refine r_zret dX11_isLaw_14 rfl rfl (Nat.le_refl _) ?_
      (try dsimp only [Gs_M])
      exact dI_f (fun z => i_no 3 (by omega) c_6 z.2)
    · (try dsimp only [Gs_M] at c_6)
      refine r_iconst (v := 1) dX11_isLaw_9 (by decide) ?_
      refine r_goto (tgt := 14) dX11_isLaw_10 (by decide) ?_
      refine r_zret dX11_isLaw_14 rfl rfl (Nat.le_refl _) ?_
      (try dsimp only [Gs_M])
      exact dI_t ⟨Int32.not_lt.mp c_1, i_pred 3 (by omega) c_6⟩
set_option maxRecDepth 20000 in
set_option maxHeartbeats 1000000 in
theorem s_X11_isPart (g : pG) (x : Int32) (S : pS) : MS g mX11_isPart 1 0 0 [.int x] (S) (dI (bI (0 ≤ x ∧ x ≤ 7)) S) := by
  refine MS.of pn_X11 (Nat.le_of_ble_eq_true rfl) ?_
  refine r_iload_n dX11_isPart_0 rfl rfl ?_
  refine r_if_lt (tgt := 14) dX11_isPart_1 (by decide) (fun c_1 => ?_) (fun c_1 => ?_)
  · (try dsimp only [Gs_M] at c_1)
    refine r_iconst (v := 0) dX11_isPart_14 (by decide) ?_
    refine r_zret dX11_isPart_15 rfl rfl (Nat.le_refl _) ?_
    (try dsimp only [Gs_M])
    exact dI_f (fun z => Int32.not_lt.mpr z.1 c_1)
  · (try dsimp only [Gs_M] at c_1)
    refine r_iload_n dX11_isPart_4 rfl rfl ?_
    refine r_bipush (v := 8) dX11_isPart_5 (by decide) ?_
    refine r_icmp_ge (tgt := 14) dX11_isPart_7 (by decide) (fun c_7 => ?_) (fun c_7 => ?_)
    · (try dsimp only [Gs_M] at c_7)
      refine r_iconst (v := 0) dX11_isPart_14 (by decide) ?_
      refine r_zret dX11_isPart_15 rfl rfl (Nat.le_refl _) ?_
      (try dsimp only [Gs_M])
      exact dI_f (fun z => i_no 7 (by omega) c_7 z.2)
    · (try dsimp only [Gs_M] at c_7)
      refine r_iconst (v := 1) dX11_isPart_10 (by decide) ?_
      refine r_goto (tgt := 15) dX11_isPart_11 (by decide) ?_
      refine r_zret dX11_isPart_15 rfl rfl (Nat.le_refl _) ?_
      (try dsimp only [Gs_M])
      exact dI_t ⟨Int32.not_lt.mp c_1, i_pred 7 (by omega) c_7⟩
set_option maxRecDepth 20000 in
set_option maxHeartbeats 1000000 in
theorem s_X11_isKind (g : pG) (x : Int32) (S : pS) : MS g mX11_isKind 1 0 0 [.int x] (S) (dI (bI (0 ≤ x ∧ x ≤ 5)) S) := by
  refine MS.of pn_X11 (Nat.le_of_ble_eq_true rfl) ?_
  refine r_iload_n dX11_isKind_0 rfl rfl ?_
  refine r_if_lt (tgt := 14) dX11_isKind_1 (by decide) (fun c_1 => ?_) (fun c_1 => ?_)
  · (try dsimp only [Gs_M] at c_1)
    refine r_iconst (v := 0) dX11_isKind_14 (by decide) ?_
    refine r_zret dX11_isKind_15 rfl rfl (Nat.le_refl _) ?_
    (try dsimp only [Gs_M])
    exact dI_f (fun z => Int32.not_lt.mpr z.1 c_1)
  · (try dsimp only [Gs_M] at c_1)
    refine r_iload_n dX11_isKind_4 rfl rfl ?_
    refine r_bipush (v := 6) dX11_isKind_5 (by decide) ?_
    refine r_icmp_ge (tgt := 14) dX11_isKind_7 (by decide) (fun c_7 => ?_) (fun c_7 => ?_)
    · (try dsimp only [Gs_M] at c_7)
      refine r_iconst (v := 0) dX11_isKind_14 (by decide) ?_
      refine r_zret dX11_isKind_15 rfl rfl (Nat.le_refl _) ?_
      (try dsimp only [Gs_M])
      exact dI_f (fun z => i_no 5 (by omega) c_7 z.2)
    · (try dsimp only [Gs_M] at c_7)
      refine r_iconst (v := 1) dX11_isKind_10 (by decide) ?_
      refine r_goto (tgt := 15) dX11_isKind_11 (by decide) ?_
      refine r_zret dX11_isKind_15 rfl rfl (Nat.le_refl _) ?_
      (try dsimp only [Gs_M])
      exact dI_t ⟨Int32.not_lt.mp c_1, i_pred 5 (by omega) c_7⟩
set_option maxRecDepth 20000 in
set_option maxHeartbeats 1000000 in
theorem s_X11_isSheet (g : pG) (x : Int32) (S : pS) : MS g mX11_isSheet 1 0 0 [.int x] (S) (dI (bI (0 ≤ x ∧ x ≤ 3)) S) := by
  refine MS.of pn_X11 (Nat.le_of_ble_eq_true rfl) ?_
  refine r_iload_n dX11_isSheet_0 rfl rfl ?_
  refine r_if_lt (tgt := 13) dX11_isSheet_1 (by decide) (fun c_1 => ?_) (fun c_1 => ?_)
  · (try dsimp only [Gs_M] at c_1)
    refine r_iconst (v := 0) dX11_isSheet_13 (by decide) ?_
    refine r_zret dX11_isSheet_14 rfl rfl (Nat.le_refl _) ?_
    (try dsimp only [Gs_M])
    exact dI_f (fun z => Int32.not_lt.mpr z.1 c_1)
  · (try dsimp only [Gs_M] at c_1)
    refine r_iload_n dX11_isSheet_4 rfl rfl ?_
    refine r_iconst (v := 4) dX11_isSheet_5 (by decide) ?_
    refine r_icmp_ge (tgt := 13) dX11_isSheet_6 (by decide) (fun c_6 => ?_) (fun c_6 => ?_)
    · (try dsimp only [Gs_M] at c_6)
      refine r_iconst (v := 0) dX11_isSheet_13 (by decide) ?_
      refine r_zret dX11_isSheet_14 rfl rfl (Nat.le_refl _) ?_
      (try dsimp only [Gs_M])
      exact dI_f (fun z => i_no 3 (by omega) c_6 z.2)
    · (try dsimp only [Gs_M] at c_6)
      refine r_iconst (v := 1) dX11_isSheet_9 (by decide) ?_
      refine r_goto (tgt := 14) dX11_isSheet_10 (by decide) ?_
      refine r_zret dX11_isSheet_14 rfl rfl (Nat.le_refl _) ?_
      (try dsimp only [Gs_M])
      exact dI_t ⟨Int32.not_lt.mp c_1, i_pred 3 (by omega) c_6⟩
set_option maxRecDepth 20000 in
set_option maxHeartbeats 1000000 in
theorem s_X11_isShelf (g : pG) (x : Int32) (S : pS) : MS g mX11_isShelf 1 0 0 [.int x] (S) (dI (bI (0 ≤ x ∧ x ≤ 3)) S) := by
  refine MS.of pn_X11 (Nat.le_of_ble_eq_true rfl) ?_
  refine r_iload_n dX11_isShelf_0 rfl rfl ?_
  refine r_if_lt (tgt := 13) dX11_isShelf_1 (by decide) (fun c_1 => ?_) (fun c_1 => ?_)
  · (try dsimp only [Gs_M] at c_1)
    refine r_iconst (v := 0) dX11_isShelf_13 (by decide) ?_
    refine r_zret dX11_isShelf_14 rfl rfl (Nat.le_refl _) ?_
    (try dsimp only [Gs_M])
    exact dI_f (fun z => Int32.not_lt.mpr z.1 c_1)
  · (try dsimp only [Gs_M] at c_1)
    refine r_iload_n dX11_isShelf_4 rfl rfl ?_
    refine r_iconst (v := 4) dX11_isShelf_5 (by decide) ?_
    refine r_icmp_ge (tgt := 13) dX11_isShelf_6 (by decide) (fun c_6 => ?_) (fun c_6 => ?_)
    · (try dsimp only [Gs_M] at c_6)
      refine r_iconst (v := 0) dX11_isShelf_13 (by decide) ?_
      refine r_zret dX11_isShelf_14 rfl rfl (Nat.le_refl _) ?_
      (try dsimp only [Gs_M])
      exact dI_f (fun z => i_no 3 (by omega) c_6 z.2)
    · (try dsimp only [Gs_M] at c_6)
      refine r_iconst (v := 1) dX11_isShelf_9 (by decide) ?_
      refine r_goto (tgt := 14) dX11_isShelf_10 (by decide) ?_
      refine r_zret dX11_isShelf_14 rfl rfl (Nat.le_refl _) ?_
      (try dsimp only [Gs_M])
      exact dI_t ⟨Int32.not_lt.mp c_1, i_pred 3 (by omega) c_6⟩
set_option maxRecDepth 20000 in
set_option maxHeartbeats 1000000 in
theorem s_X11_isPlayer (g : pG) {S : pS} (hS : sOk S) (hI : InvR (vw S 1)) (x : Int32) : MS g mX11_isPlayer 1 0 0 [.ref 0, .int x] (S) (dI (bI (0 ≤ x ∧ x ≤ vw S 1 6 - 1)) S) := by
  obtain ⟨M0, rfl⟩ := sOk_gs hS
  obtain ⟨h8, hpl⟩ := hI.pl
  refine MS.of pn_X11 (Nat.le_of_ble_eq_true rfl) ?_
  refine r_iload_n dX11_isPlayer_0 rfl rfl ?_
  refine r_if_lt (tgt := 19) dX11_isPlayer_1 (by decide) (fun c_1 => ?_) (fun c_1 => ?_)
  · (try dsimp only [Gs_M] at c_1)
    refine r_iconst (v := 0) dX11_isPlayer_19 (by decide) ?_
    refine r_zret dX11_isPlayer_20 rfl rfl (Nat.le_refl _) ?_
    (try dsimp only [Gs_M])
    exact dI_f (fun z => Int32.not_lt.mpr z.1 c_1)
  · (try dsimp only [Gs_M] at c_1)
    refine r_iload_n dX11_isPlayer_4 rfl rfl ?_
    refine r_aload_n dX11_isPlayer_5 rfl rfl ?_
    refine r_getR (q := 1) dX11_isPlayer_6 (ci := 11) (kf := 0) rfl (Nat.le_of_ble_eq_true rfl) (by decide) (by decide) rfl fl_X11_10 (Or.inl rfl) rfl ?_
    refine r_getI dX11_isPlayer_9 (ci := 0) (kf := 6) rfl (Nat.le_of_ble_eq_true rfl) (by decide) (by decide) rfl fl_X11_114 (Or.inl rfl) ?_
    refine r_icmp_ge (tgt := 19) dX11_isPlayer_12 (by decide) (fun c_12 => ?_) (fun c_12 => ?_)
    · (try dsimp only [Gs_M] at c_12)
      refine r_iconst (v := 0) dX11_isPlayer_19 (by decide) ?_
      refine r_zret dX11_isPlayer_20 rfl rfl (Nat.le_refl _) ?_
      (try dsimp only [Gs_M])
      exact dI_f (fun z => (pl_iff (n := plR (vw (Gs M0) 1)) (by omega) hpl).mpr z.2 c_12)
    · (try dsimp only [Gs_M] at c_12)
      refine r_iconst (v := 1) dX11_isPlayer_15 (by decide) ?_
      refine r_goto (tgt := 20) dX11_isPlayer_16 (by decide) ?_
      refine r_zret dX11_isPlayer_20 rfl rfl (Nat.le_refl _) ?_
      (try dsimp only [Gs_M])
      exact dI_t ⟨Int32.not_lt.mp c_1, (pl_iff (n := plR (vw (Gs M0) 1)) (by omega) hpl).mp c_12⟩
set_option maxRecDepth 20000 in
set_option maxHeartbeats 1000000 in
theorem s_X11_set (g : pG) {S : pS} (hS : sOk S) (hI : InvR (vw S 1)) (hN : InvN (vw S 1)) (law : Int32) (v : Int32) : MS g mX11_set 2 0 0 [.ref 0, .int law, .int v] (S) (eI (fun rx S1 => rx = setX (vw (S) 1) law v ∧ fr [2] (S) S1 ∧ vw S1 1 = setW (vw (S) 1) law v)) := by
  obtain ⟨M0, rfl⟩ := sOk_gs hS
  obtain ⟨h8, hpl⟩ := hI.pl
  refine MS.of pn_X11 (Nat.le_of_ble_eq_true rfl) ?_
  refine r_iload_n dX11_set_0 rfl rfl ?_
  refine r_callS_dI dX11_set_1 (s_X11_isLaw g _ _) mf_X11_isLaw mt_X11_isLaw ml_X11_117 rfl rfl (Nat.le_of_ble_eq_true rfl) ⟨(Nat.le_of_ble_eq_true rfl), (Nat.le_of_ble_eq_true rfl)⟩ ⟨(Nat.le_of_ble_eq_true rfl), (Nat.le_of_ble_eq_true rfl)⟩ ?_
  refine r_if_eq (tgt := 20) dX11_set_4 (by decide) (fun c_4 => ?_) (fun c_4 => ?_)
  · have c_4 := bI_0 c_4
    (try dsimp only [Gs_M] at c_4)
    refine r_iconst (v := (-1)) dX11_set_20 (by decide) ?_
    refine r_iret dX11_set_21 rfl (Nat.le_refl _) ?_
    (try dsimp only [Gs_M])
    refine ⟨_, rfl, ?_, fr.rf, ?_⟩
    · rw [setX, if_neg (fun z => c_4 z.1)]
    · rw [setW, if_neg (fun z => c_4 z.1)]
  · have c_4 := bI_n c_4
    (try dsimp only [Gs_M] at c_4)
    refine r_iload_n dX11_set_7 rfl rfl ?_
    refine r_if_lt (tgt := 20) dX11_set_8 (by decide) (fun c_8 => ?_) (fun c_8 => ?_)
    · (try dsimp only [Gs_M] at c_8)
      refine r_iconst (v := (-1)) dX11_set_20 (by decide) ?_
      refine r_iret dX11_set_21 rfl (Nat.le_refl _) ?_
      (try dsimp only [Gs_M])
      refine ⟨_, rfl, ?_, fr.rf, ?_⟩
      · rw [setX, if_neg (fun z => Int32.not_lt.mpr z.2.1 c_8)]
      · rw [setW, if_neg (fun z => Int32.not_lt.mpr z.2.1 c_8)]
    · (try dsimp only [Gs_M] at c_8)
      refine r_iload_n dX11_set_11 rfl rfl ?_
      refine r_gets (k0 := 1) (by decide) dX11_set_12 fl_X11_121 ?_
      obtain ⟨j1, hj1, rfl⟩ := rng (x := law) 3 (by decide) c_4
      refine r_iload_n dX11_set_15 rfl rfl ?_
      refine r_taldN (k0 := 1) (j := j1) (by decide) rfl (by show _ < 4; omega) dX11_set_16 ?_
      rw [lawMost hj1]
      refine r_icmp_le (tgt := 22) dX11_set_17 (by decide) (fun c_17 => ?_) (fun c_17 => ?_)
      · (try dsimp only [Gs_M] at c_17)
        refine r_aload_n dX11_set_22 rfl rfl ?_
        refine r_getR (q := 1) dX11_set_23 (ci := 11) (kf := 0) rfl (Nat.le_of_ble_eq_true rfl) (by decide) (by decide) rfl fl_X11_10 (Or.inl rfl) rfl ?_
        refine r_getR (q := (1 + 1)) dX11_set_26 (ci := 0) (kf := 0) rfl (Nat.le_of_ble_eq_true rfl) (by decide) (by decide) rfl fl_X11_124 (Or.inl rfl) (CoG (Or.inl rfl)).2.2.2.1 ?_
        refine r_iload_n dX11_set_29 rfl rfl ?_
        refine r_iald (j := j1) dX11_set_30 (CoG (Or.inl rfl)).2.2.1.1 (Co_la1 (CoG (Or.inl rfl))) rfl (by omega) (by decide) ?_
        refine r_istore_n dX11_set_31 rfl (by decide) ?_
        refine r_aload_n dX11_set_32 rfl rfl ?_
        refine r_getR (q := 1) dX11_set_33 (ci := 11) (kf := 0) rfl (Nat.le_of_ble_eq_true rfl) (by decide) (by decide) rfl fl_X11_10 (Or.inl rfl) rfl ?_
        refine r_getR (q := (1 + 1)) dX11_set_36 (ci := 0) (kf := 0) rfl (Nat.le_of_ble_eq_true rfl) (by decide) (by decide) rfl fl_X11_124 (Or.inl rfl) (CoG (Or.inl rfl)).2.2.2.1 ?_
        refine r_iload_n dX11_set_39 rfl rfl ?_
        refine r_iload_n dX11_set_40 rfl rfl ?_
        refine r_iast (j := j1) dX11_set_41 (CoG (Or.inl rfl)).2.2.1.1 (Co_la1 (CoG (Or.inl rfl))) rfl (by omega) (by decide) ?_
        refine r_iload_n dX11_set_42 rfl rfl ?_
        refine r_iret dX11_set_43 rfl (Nat.le_refl _) ?_
        (try dsimp only [Gs_M])
        refine ⟨_, rfl, ?_, fr.rf.set (by decide), ?_⟩
        · rw [setX, if_pos (⟨c_4, ⟨Int32.not_lt.mp c_8, c_17⟩⟩), cl_nI (by omega)]
          exact (vw_l (S := Gs M0) (b := 1) (j := j1) (by omega)).symm
        · rw [setW, if_pos (⟨c_4, ⟨Int32.not_lt.mp c_8, c_17⟩⟩), cl_nI (by omega)]
          exact vs_l (by omega)
      · (try dsimp only [Gs_M] at c_17)
        refine r_iconst (v := (-1)) dX11_set_20 (by decide) ?_
        refine r_iret dX11_set_21 rfl (Nat.le_refl _) ?_
        (try dsimp only [Gs_M])
        refine ⟨_, rfl, ?_, fr.rf, ?_⟩
        · rw [setX, if_neg (fun z => c_17 z.2.2)]
        · rw [setW, if_neg (fun z => c_17 z.2.2)]
set_option maxRecDepth 20000 in
set_option maxHeartbeats 1000000 in
theorem s_X11_lawOf (g : pG) {S : pS} (hS : sOk S) (hI : InvR (vw S 1)) (hN : InvN (vw S 1)) (law : Int32) : MS g mX11_lawOf 2 0 0 [.ref 0, .int law] (S) (eI (fun rx S1 => rx = lawX (vw (S) 1) law ∧ fr [] (S) S1)) := by
  obtain ⟨M0, rfl⟩ := sOk_gs hS
  obtain ⟨h8, hpl⟩ := hI.pl
  refine MS.of pn_X11 (Nat.le_of_ble_eq_true rfl) ?_
  refine r_iload_n dX11_lawOf_0 rfl rfl ?_
  refine r_callS_dI dX11_lawOf_1 (s_X11_isLaw g _ _) mf_X11_isLaw mt_X11_isLaw ml_X11_117 rfl rfl (Nat.le_of_ble_eq_true rfl) ⟨(Nat.le_of_ble_eq_true rfl), (Nat.le_of_ble_eq_true rfl)⟩ ⟨(Nat.le_of_ble_eq_true rfl), (Nat.le_of_ble_eq_true rfl)⟩ ?_
  refine r_if_eq (tgt := 19) dX11_lawOf_4 (by decide) (fun c_4 => ?_) (fun c_4 => ?_)
  · have c_4 := bI_0 c_4
    (try dsimp only [Gs_M] at c_4)
    refine r_iconst (v := (-1)) dX11_lawOf_19 (by decide) ?_
    refine r_iret dX11_lawOf_20 rfl (Nat.le_refl _) ?_
    (try dsimp only [Gs_M])
    refine ⟨_, rfl, ?_, fr.rf⟩
    · rw [lawX, if_neg (fun z => c_4 z)]
  · have c_4 := bI_n c_4
    (try dsimp only [Gs_M] at c_4)
    obtain ⟨j1, hj1, rfl⟩ := rng (x := law) 3 (by decide) c_4
    refine r_aload_n dX11_lawOf_7 rfl rfl ?_
    refine r_getR (q := 1) dX11_lawOf_8 (ci := 11) (kf := 0) rfl (Nat.le_of_ble_eq_true rfl) (by decide) (by decide) rfl fl_X11_10 (Or.inl rfl) rfl ?_
    refine r_getR (q := (1 + 1)) dX11_lawOf_11 (ci := 0) (kf := 0) rfl (Nat.le_of_ble_eq_true rfl) (by decide) (by decide) rfl fl_X11_124 (Or.inl rfl) (CoG (Or.inl rfl)).2.2.2.1 ?_
    refine r_iload_n dX11_lawOf_14 rfl rfl ?_
    refine r_iald (j := j1) dX11_lawOf_15 (CoG (Or.inl rfl)).2.2.1.1 (Co_la1 (CoG (Or.inl rfl))) rfl (by omega) (by decide) ?_
    refine r_goto (tgt := 20) dX11_lawOf_16 (by decide) ?_
    refine r_iret dX11_lawOf_20 rfl (Nat.le_refl _) ?_
    (try dsimp only [Gs_M])
    refine ⟨_, rfl, ?_, fr.rf⟩
    rw [lawX, if_pos (c_4), cl_nI (by omega)]
    exact (vw_l (S := Gs M0) (b := 1) (j := j1) (by omega)).symm
set_option maxRecDepth 20000 in
set_option maxHeartbeats 1000000 in
theorem s_X11_weigh (g : pG) {S : pS} (hS : sOk S) (hI : InvR (vw S 1)) (hN : InvN (vw S 1)) (p : Int32) (v : Int32) : MS g mX11_weigh 2 0 0 [.ref 0, .int p, .int v] (S) (eI (fun rx S1 => rx = weighX (vw (S) 1) p v ∧ fr [3] (S) S1 ∧ vw S1 1 = weighW (vw (S) 1) p v)) := by
  obtain ⟨M0, rfl⟩ := sOk_gs hS
  obtain ⟨h8, hpl⟩ := hI.pl
  refine MS.of pn_X11 (Nat.le_of_ble_eq_true rfl) ?_
  refine r_iload_n dX11_weigh_0 rfl rfl ?_
  refine r_callS_dI dX11_weigh_1 (s_X11_isPart g _ _) mf_X11_isPart mt_X11_isPart ml_X11_127 rfl rfl (Nat.le_of_ble_eq_true rfl) ⟨(Nat.le_of_ble_eq_true rfl), (Nat.le_of_ble_eq_true rfl)⟩ ⟨(Nat.le_of_ble_eq_true rfl), (Nat.le_of_ble_eq_true rfl)⟩ ?_
  refine r_if_eq (tgt := 17) dX11_weigh_4 (by decide) (fun c_4 => ?_) (fun c_4 => ?_)
  · have c_4 := bI_0 c_4
    (try dsimp only [Gs_M] at c_4)
    refine r_iconst (v := (-1)) dX11_weigh_17 (by decide) ?_
    refine r_iret dX11_weigh_18 rfl (Nat.le_refl _) ?_
    (try dsimp only [Gs_M])
    refine ⟨_, rfl, ?_, fr.rf, ?_⟩
    · rw [weighX, if_neg (fun z => c_4 z.1)]
    · rw [weighW, if_neg (fun z => c_4 z.1)]
  · have c_4 := bI_n c_4
    (try dsimp only [Gs_M] at c_4)
    refine r_iload_n dX11_weigh_7 rfl rfl ?_
    refine r_if_lt (tgt := 17) dX11_weigh_8 (by decide) (fun c_8 => ?_) (fun c_8 => ?_)
    · (try dsimp only [Gs_M] at c_8)
      refine r_iconst (v := (-1)) dX11_weigh_17 (by decide) ?_
      refine r_iret dX11_weigh_18 rfl (Nat.le_refl _) ?_
      (try dsimp only [Gs_M])
      refine ⟨_, rfl, ?_, fr.rf, ?_⟩
      · rw [weighX, if_neg (fun z => Int32.not_lt.mpr z.2.1 c_8)]
      · rw [weighW, if_neg (fun z => Int32.not_lt.mpr z.2.1 c_8)]
    · (try dsimp only [Gs_M] at c_8)
      refine r_iload_n dX11_weigh_11 rfl rfl ?_
      refine r_bipush (v := 9) dX11_weigh_12 (by decide) ?_
      refine r_icmp_le (tgt := 19) dX11_weigh_14 (by decide) (fun c_14 => ?_) (fun c_14 => ?_)
      · (try dsimp only [Gs_M] at c_14)
        obtain ⟨j1, hj1, rfl⟩ := rng (x := p) 7 (by decide) c_4
        refine r_aload_n dX11_weigh_19 rfl rfl ?_
        refine r_getR (q := 1) dX11_weigh_20 (ci := 11) (kf := 0) rfl (Nat.le_of_ble_eq_true rfl) (by decide) (by decide) rfl fl_X11_10 (Or.inl rfl) rfl ?_
        refine r_getR (q := (1 + 2)) dX11_weigh_23 (ci := 0) (kf := 1) rfl (Nat.le_of_ble_eq_true rfl) (by decide) (by decide) rfl fl_X11_130 (Or.inl rfl) (CoG (Or.inl rfl)).2.2.2.2.1 ?_
        refine r_iload_n dX11_weigh_26 rfl rfl ?_
        refine r_iald (j := j1) dX11_weigh_27 (CoG (Or.inl rfl)).2.2.1.2.1 (Co_la2 (CoG (Or.inl rfl))) rfl (by omega) (by decide) ?_
        refine r_istore_n dX11_weigh_28 rfl (by decide) ?_
        refine r_aload_n dX11_weigh_29 rfl rfl ?_
        refine r_getR (q := 1) dX11_weigh_30 (ci := 11) (kf := 0) rfl (Nat.le_of_ble_eq_true rfl) (by decide) (by decide) rfl fl_X11_10 (Or.inl rfl) rfl ?_
        refine r_getR (q := (1 + 2)) dX11_weigh_33 (ci := 0) (kf := 1) rfl (Nat.le_of_ble_eq_true rfl) (by decide) (by decide) rfl fl_X11_130 (Or.inl rfl) (CoG (Or.inl rfl)).2.2.2.2.1 ?_
        refine r_iload_n dX11_weigh_36 rfl rfl ?_
        refine r_iload_n dX11_weigh_37 rfl rfl ?_
        refine r_iast (j := j1) dX11_weigh_38 (CoG (Or.inl rfl)).2.2.1.2.1 (Co_la2 (CoG (Or.inl rfl))) rfl (by omega) (by decide) ?_
        refine r_iload_n dX11_weigh_39 rfl rfl ?_
        refine r_iret dX11_weigh_40 rfl (Nat.le_refl _) ?_
        (try dsimp only [Gs_M])
        refine ⟨_, rfl, ?_, fr.rf.set (by decide), ?_⟩
        · rw [weighX, if_pos (⟨c_4, ⟨Int32.not_lt.mp c_8, c_14⟩⟩), cl_nI (by omega)]
          exact (vw_w (S := Gs M0) (b := 1) (p := j1) (by omega)).symm
        · rw [weighW, if_pos (⟨c_4, ⟨Int32.not_lt.mp c_8, c_14⟩⟩), cl_nI (by omega)]
          exact vs_w (by omega)
      · (try dsimp only [Gs_M] at c_14)
        refine r_iconst (v := (-1)) dX11_weigh_17 (by decide) ?_
        refine r_iret dX11_weigh_18 rfl (Nat.le_refl _) ?_
        (try dsimp only [Gs_M])
        refine ⟨_, rfl, ?_, fr.rf, ?_⟩
        · rw [weighX, if_neg (fun z => c_14 z.2.2)]
        · rw [weighW, if_neg (fun z => c_14 z.2.2)]
set_option maxRecDepth 20000 in
set_option maxHeartbeats 1000000 in
theorem s_X11_knows (g : pG) {S : pS} (hS : sOk S) (hI : InvR (vw S 1)) (hN : InvN (vw S 1)) (x : Int32) (p : Int32) : MS g mX11_knows 2 0 0 [.ref 0, .int x, .int p] (S) (eI (fun rx S1 => rx = knowsX (vw (S) 1) x p ∧ fr [] (S) S1)) := by
  obtain ⟨M0, rfl⟩ := sOk_gs hS
  obtain ⟨h8, hpl⟩ := hI.pl
  refine MS.of pn_X11 (Nat.le_of_ble_eq_true rfl) ?_
  refine r_aload_n dX11_knows_0 rfl rfl ?_
  refine r_iload_n dX11_knows_1 rfl rfl ?_
  refine r_callV_dI (ci := 11) dX11_knows_2 (s_X11_isPlayer g hS hI _) mf_X11_isPlayer mi_X11_isPlayer se_X11_X11_X11_isPlayer ml_X11_150 rfl rfl (Nat.le_of_ble_eq_true rfl) rfl (by decide) rfl (Nat.le_of_ble_eq_true rfl) ⟨(Nat.le_of_ble_eq_true rfl), (Nat.le_of_ble_eq_true rfl)⟩ ⟨(Nat.le_of_ble_eq_true rfl), (Nat.le_of_ble_eq_true rfl)⟩ ?_
  refine r_if_eq (tgt := 27) dX11_knows_5 (by decide) (fun c_5 => ?_) (fun c_5 => ?_)
  · have c_5 := bI_0 c_5
    (try dsimp only [Gs_M] at c_5)
    refine r_iconst (v := (-1)) dX11_knows_27 (by decide) ?_
    refine r_iret dX11_knows_28 rfl (Nat.le_refl _) ?_
    (try dsimp only [Gs_M])
    refine ⟨_, rfl, ?_, fr.rf⟩
    · rw [knowsX, if_neg (fun z => c_5 z.1)]
  · have c_5 := bI_n c_5
    (try dsimp only [Gs_M] at c_5)
    refine r_iload_n dX11_knows_8 rfl rfl ?_
    refine r_callS_dI dX11_knows_9 (s_X11_isPart g _ _) mf_X11_isPart mt_X11_isPart ml_X11_127 rfl rfl (Nat.le_of_ble_eq_true rfl) ⟨(Nat.le_of_ble_eq_true rfl), (Nat.le_of_ble_eq_true rfl)⟩ ⟨(Nat.le_of_ble_eq_true rfl), (Nat.le_of_ble_eq_true rfl)⟩ ?_
    refine r_if_eq (tgt := 27) dX11_knows_12 (by decide) (fun c_12 => ?_) (fun c_12 => ?_)
    · have c_12 := bI_0 c_12
      (try dsimp only [Gs_M] at c_12)
      refine r_iconst (v := (-1)) dX11_knows_27 (by decide) ?_
      refine r_iret dX11_knows_28 rfl (Nat.le_refl _) ?_
      (try dsimp only [Gs_M])
      refine ⟨_, rfl, ?_, fr.rf⟩
      · rw [knowsX, if_neg (fun z => c_12 z.2)]
    · have c_12 := bI_n c_12
      (try dsimp only [Gs_M] at c_12)
      obtain ⟨k, hk, rfl⟩ := rngP (x := x) c_5 h8 hpl
      obtain ⟨j, hj, rfl⟩ := rng (x := p) 7 (by decide) c_12
      refine r_aload_n dX11_knows_15 rfl rfl ?_
      refine r_getR (q := 1) dX11_knows_16 (ci := 11) (kf := 0) rfl (Nat.le_of_ble_eq_true rfl) (by decide) (by decide) rfl fl_X11_10 (Or.inl rfl) rfl ?_
      refine r_iload_n dX11_knows_19 rfl rfl ?_
      refine r_iload_n dX11_knows_20 rfl rfl ?_
      refine r_callV_dI (ci := 0) dX11_knows_21 (s_X0_knowing g (CoG (Or.inl rfl)) (k) (j) (by omega) (by omega)) mf_X0_knowing mi_X0_knowing se_X0_X0_X0_knowing ml_X11_165 rfl rfl (Nat.le_of_ble_eq_true rfl) rfl (by decide) rfl (Nat.le_of_ble_eq_true rfl) ⟨(Nat.le_of_ble_eq_true rfl), (Nat.le_of_ble_eq_true rfl)⟩ ⟨(Nat.le_of_ble_eq_true rfl), (Nat.le_of_ble_eq_true rfl)⟩ ?_
      refine r_goto (tgt := 28) dX11_knows_24 (by decide) ?_
      refine r_iret dX11_knows_28 rfl (Nat.le_refl _) ?_
      (try dsimp only [Gs_M])
      refine ⟨_, rfl, ?_, fr.rf⟩
      rw [knowsX, if_pos (⟨c_5, c_12⟩), cl_nI (by omega), cl_nI (by omega)]
set_option maxRecDepth 20000 in
set_option maxHeartbeats 1000000 in
theorem s_X11_mind (g : pG) {S : pS} (hS : sOk S) (hI : InvR (vw S 1)) (hN : InvN (vw S 1)) (x : Int32) (kd : Int32) : MS g mX11_mind 2 0 0 [.ref 0, .int x, .int kd] (S) (eI (fun rx S1 => rx = mindX (vw (S) 1) x kd ∧ fr [4] (S) S1 ∧ vw S1 1 = mindW (vw (S) 1) x kd)) := by
  obtain ⟨M0, rfl⟩ := sOk_gs hS
  obtain ⟨h8, hpl⟩ := hI.pl
  refine MS.of pn_X11 (Nat.le_of_ble_eq_true rfl) ?_
  refine r_aload_n dX11_mind_0 rfl rfl ?_
  refine r_iload_n dX11_mind_1 rfl rfl ?_
  refine r_callV_dI (ci := 11) dX11_mind_2 (s_X11_isPlayer g hS hI _) mf_X11_isPlayer mi_X11_isPlayer se_X11_X11_X11_isPlayer ml_X11_150 rfl rfl (Nat.le_of_ble_eq_true rfl) rfl (by decide) rfl (Nat.le_of_ble_eq_true rfl) ⟨(Nat.le_of_ble_eq_true rfl), (Nat.le_of_ble_eq_true rfl)⟩ ⟨(Nat.le_of_ble_eq_true rfl), (Nat.le_of_ble_eq_true rfl)⟩ ?_
  refine r_if_eq (tgt := 15) dX11_mind_5 (by decide) (fun c_5 => ?_) (fun c_5 => ?_)
  · have c_5 := bI_0 c_5
    (try dsimp only [Gs_M] at c_5)
    refine r_iconst (v := (-1)) dX11_mind_15 (by decide) ?_
    refine r_iret dX11_mind_16 rfl (Nat.le_refl _) ?_
    (try dsimp only [Gs_M])
    refine ⟨_, rfl, ?_, fr.rf, ?_⟩
    · rw [mindX, if_neg (fun z => c_5 z.1)]
    · rw [mindW, if_neg (fun z => c_5 z.1)]
  · have c_5 := bI_n c_5
    (try dsimp only [Gs_M] at c_5)
    refine r_iload_n dX11_mind_8 rfl rfl ?_
    refine r_callS_dI dX11_mind_9 (s_X11_isKind g _ _) mf_X11_isKind mt_X11_isKind ml_X11_143 rfl rfl (Nat.le_of_ble_eq_true rfl) ⟨(Nat.le_of_ble_eq_true rfl), (Nat.le_of_ble_eq_true rfl)⟩ ⟨(Nat.le_of_ble_eq_true rfl), (Nat.le_of_ble_eq_true rfl)⟩ ?_
    refine r_if_ne (tgt := 17) dX11_mind_12 (by decide) (fun c_12 => ?_) (fun c_12 => ?_)
    · have c_12 := bI_n c_12
      (try dsimp only [Gs_M] at c_12)
      obtain ⟨k, hk, rfl⟩ := rngP (x := x) c_5 h8 hpl
      refine r_aload_n dX11_mind_17 rfl rfl ?_
      refine r_getR (q := 1) dX11_mind_18 (ci := 11) (kf := 0) rfl (Nat.le_of_ble_eq_true rfl) (by decide) (by decide) rfl fl_X11_10 (Or.inl rfl) rfl ?_
      refine r_getR (q := (1 + 3)) dX11_mind_21 (ci := 0) (kf := 2) rfl (Nat.le_of_ble_eq_true rfl) (by decide) (by decide) rfl fl_X11_153 (Or.inl rfl) (CoG (Or.inl rfl)).2.2.2.2.2.1 ?_
      refine r_iload_n dX11_mind_24 rfl rfl ?_
      refine r_iald (j := k) dX11_mind_25 (CoG (Or.inl rfl)).2.2.1.2.2.1 (Co_la3 (CoG (Or.inl rfl))) rfl (by omega) (by decide) ?_
      refine r_istore_n dX11_mind_26 rfl (by decide) ?_
      refine r_aload_n dX11_mind_27 rfl rfl ?_
      refine r_getR (q := 1) dX11_mind_28 (ci := 11) (kf := 0) rfl (Nat.le_of_ble_eq_true rfl) (by decide) (by decide) rfl fl_X11_10 (Or.inl rfl) rfl ?_
      refine r_getR (q := (1 + 3)) dX11_mind_31 (ci := 0) (kf := 2) rfl (Nat.le_of_ble_eq_true rfl) (by decide) (by decide) rfl fl_X11_153 (Or.inl rfl) (CoG (Or.inl rfl)).2.2.2.2.2.1 ?_
      refine r_iload_n dX11_mind_34 rfl rfl ?_
      refine r_iload_n dX11_mind_35 rfl rfl ?_
      refine r_iast (j := k) dX11_mind_36 (CoG (Or.inl rfl)).2.2.1.2.2.1 (Co_la3 (CoG (Or.inl rfl))) rfl (by omega) (by decide) ?_
      refine r_iload_n dX11_mind_37 rfl rfl ?_
      refine r_iret dX11_mind_38 rfl (Nat.le_refl _) ?_
      (try dsimp only [Gs_M])
      refine ⟨_, rfl, ?_, fr.rf.set (by decide), ?_⟩
      · rw [mindX, if_pos (⟨c_5, c_12⟩), cl_nI (by omega)]
        exact (vw_k (S := Gs M0) (b := 1) (k := k) (by omega)).symm
      · rw [mindW, if_pos (⟨c_5, c_12⟩), cl_nI (by omega)]
        exact vs_k (by omega)
    · have c_12 := bI_0 c_12
      (try dsimp only [Gs_M] at c_12)
      refine r_iconst (v := (-1)) dX11_mind_15 (by decide) ?_
      refine r_iret dX11_mind_16 rfl (Nat.le_refl _) ?_
      (try dsimp only [Gs_M])
      refine ⟨_, rfl, ?_, fr.rf, ?_⟩
      · rw [mindX, if_neg (fun z => c_12 z.2)]
      · rw [mindW, if_neg (fun z => c_12 z.2)]
set_option maxRecDepth 20000 in
set_option maxHeartbeats 1000000 in
theorem s_X11_sick (g : pG) {S : pS} (hS : sOk S) (hI : InvR (vw S 1)) (hN : InvN (vw S 1)) (x : Int32) (v : Int32) : MS g mX11_sick 2 0 0 [.ref 0, .int x, .int v] (S) (eI (fun rx S1 => rx = sickX (vw (S) 1) x v ∧ fr [6] (S) S1 ∧ vw S1 1 = sickW (vw (S) 1) x v)) := by
  obtain ⟨M0, rfl⟩ := sOk_gs hS
  obtain ⟨h8, hpl⟩ := hI.pl
  refine MS.of pn_X11 (Nat.le_of_ble_eq_true rfl) ?_
  refine r_aload_n dX11_sick_0 rfl rfl ?_
  refine r_iload_n dX11_sick_1 rfl rfl ?_
  refine r_callV_dI (ci := 11) dX11_sick_2 (s_X11_isPlayer g hS hI _) mf_X11_isPlayer mi_X11_isPlayer se_X11_X11_X11_isPlayer ml_X11_150 rfl rfl (Nat.le_of_ble_eq_true rfl) rfl (by decide) rfl (Nat.le_of_ble_eq_true rfl) ⟨(Nat.le_of_ble_eq_true rfl), (Nat.le_of_ble_eq_true rfl)⟩ ⟨(Nat.le_of_ble_eq_true rfl), (Nat.le_of_ble_eq_true rfl)⟩ ?_
  refine r_if_eq (tgt := 18) dX11_sick_5 (by decide) (fun c_5 => ?_) (fun c_5 => ?_)
  · have c_5 := bI_0 c_5
    (try dsimp only [Gs_M] at c_5)
    refine r_iconst (v := (-1)) dX11_sick_18 (by decide) ?_
    refine r_iret dX11_sick_19 rfl (Nat.le_refl _) ?_
    (try dsimp only [Gs_M])
    refine ⟨_, rfl, ?_, fr.rf, ?_⟩
    · rw [sickX, if_neg (fun z => c_5 z.1)]
    · rw [sickW, if_neg (fun z => c_5 z.1)]
  · have c_5 := bI_n c_5
    (try dsimp only [Gs_M] at c_5)
    refine r_iload_n dX11_sick_8 rfl rfl ?_
    refine r_if_lt (tgt := 18) dX11_sick_9 (by decide) (fun c_9 => ?_) (fun c_9 => ?_)
    · (try dsimp only [Gs_M] at c_9)
      refine r_iconst (v := (-1)) dX11_sick_18 (by decide) ?_
      refine r_iret dX11_sick_19 rfl (Nat.le_refl _) ?_
      (try dsimp only [Gs_M])
      refine ⟨_, rfl, ?_, fr.rf, ?_⟩
      · rw [sickX, if_neg (fun z => Int32.not_lt.mpr z.2.1 c_9)]
      · rw [sickW, if_neg (fun z => Int32.not_lt.mpr z.2.1 c_9)]
    · (try dsimp only [Gs_M] at c_9)
      refine r_iload_n dX11_sick_12 rfl rfl ?_
      refine r_bipush (v := 9) dX11_sick_13 (by decide) ?_
      refine r_icmp_le (tgt := 20) dX11_sick_15 (by decide) (fun c_15 => ?_) (fun c_15 => ?_)
      · (try dsimp only [Gs_M] at c_15)
        obtain ⟨k, hk, rfl⟩ := rngP (x := x) c_5 h8 hpl
        refine r_aload_n dX11_sick_20 rfl rfl ?_
        refine r_getR (q := 1) dX11_sick_21 (ci := 11) (kf := 0) rfl (Nat.le_of_ble_eq_true rfl) (by decide) (by decide) rfl fl_X11_10 (Or.inl rfl) rfl ?_
        refine r_getR (q := (1 + 5)) dX11_sick_24 (ci := 0) (kf := 4) rfl (Nat.le_of_ble_eq_true rfl) (by decide) (by decide) rfl fl_X11_159 (Or.inl rfl) (CoG (Or.inl rfl)).2.2.2.2.2.2.2.1 ?_
        refine r_iload_n dX11_sick_27 rfl rfl ?_
        refine r_iald (j := k) dX11_sick_28 (CoG (Or.inl rfl)).2.2.1.2.2.2.2.1 (Co_la5 (CoG (Or.inl rfl))) rfl (by omega) (by decide) ?_
        refine r_istore_n dX11_sick_29 rfl (by decide) ?_
        refine r_aload_n dX11_sick_30 rfl rfl ?_
        refine r_getR (q := 1) dX11_sick_31 (ci := 11) (kf := 0) rfl (Nat.le_of_ble_eq_true rfl) (by decide) (by decide) rfl fl_X11_10 (Or.inl rfl) rfl ?_
        refine r_getR (q := (1 + 5)) dX11_sick_34 (ci := 0) (kf := 4) rfl (Nat.le_of_ble_eq_true rfl) (by decide) (by decide) rfl fl_X11_159 (Or.inl rfl) (CoG (Or.inl rfl)).2.2.2.2.2.2.2.1 ?_
        refine r_iload_n dX11_sick_37 rfl rfl ?_
        refine r_iload_n dX11_sick_38 rfl rfl ?_
        refine r_iast (j := k) dX11_sick_39 (CoG (Or.inl rfl)).2.2.1.2.2.2.2.1 (Co_la5 (CoG (Or.inl rfl))) rfl (by omega) (by decide) ?_
        refine r_iload_n dX11_sick_40 rfl rfl ?_
        refine r_iret dX11_sick_41 rfl (Nat.le_refl _) ?_
        (try dsimp only [Gs_M])
        refine ⟨_, rfl, ?_, fr.rf.set (by decide), ?_⟩
        · rw [sickX, if_pos (⟨c_5, ⟨Int32.not_lt.mp c_9, c_15⟩⟩), cl_nI (by omega)]
          exact (vw_i (S := Gs M0) (b := 1) (k := k) (by omega)).symm
        · rw [sickW, if_pos (⟨c_5, ⟨Int32.not_lt.mp c_9, c_15⟩⟩), cl_nI (by omega)]
          exact vs_i (by omega)
      · (try dsimp only [Gs_M] at c_15)
        refine r_iconst (v := (-1)) dX11_sick_18 (by decide) ?_
        refine r_iret dX11_sick_19 rfl (Nat.le_refl _) ?_
        (try dsimp only [Gs_M])
        refine ⟨_, rfl, ?_, fr.rf, ?_⟩
        · rw [sickX, if_neg (fun z => c_15 z.2.2)]
        · rw [sickW, if_neg (fun z => c_15 z.2.2)]
set_option maxRecDepth 20000 in
set_option maxHeartbeats 1000000 in
theorem s_X11_teach (g : pG) {S : pS} (hS : sOk S) (hI : InvR (vw S 1)) (hN : InvN (vw S 1)) (x : Int32) (p : Int32) (v : Int32) : MS g mX11_teach 3 0 0 [.ref 0, .int x, .int p, .int v] (S) (eI (fun rx S1 => rx = teachX (vw (S) 1) x p v ∧ fr [7] (S) S1 ∧ vw S1 1 = teachW (vw (S) 1) x p v)) := by
  obtain ⟨M0, rfl⟩ := sOk_gs hS
  obtain ⟨h8, hpl⟩ := hI.pl
  refine MS.of pn_X11 (Nat.le_of_ble_eq_true rfl) ?_
  refine r_aload_n dX11_teach_0 rfl rfl ?_
  refine r_iload_n dX11_teach_1 rfl rfl ?_
  refine r_callV_dI (ci := 11) dX11_teach_2 (s_X11_isPlayer g hS hI _) mf_X11_isPlayer mi_X11_isPlayer se_X11_X11_X11_isPlayer ml_X11_150 rfl rfl (Nat.le_of_ble_eq_true rfl) rfl (by decide) rfl (Nat.le_of_ble_eq_true rfl) ⟨(Nat.le_of_ble_eq_true rfl), (Nat.le_of_ble_eq_true rfl)⟩ ⟨(Nat.le_of_ble_eq_true rfl), (Nat.le_of_ble_eq_true rfl)⟩ ?_
  refine r_if_eq (tgt := 25) dX11_teach_5 (by decide) (fun c_5 => ?_) (fun c_5 => ?_)
  · have c_5 := bI_0 c_5
    (try dsimp only [Gs_M] at c_5)
    refine r_iconst (v := (-1)) dX11_teach_25 (by decide) ?_
    refine r_iret dX11_teach_26 rfl (Nat.le_refl _) ?_
    (try dsimp only [Gs_M])
    refine ⟨_, rfl, ?_, fr.rf, ?_⟩
    · rw [teachX, if_neg (fun z => c_5 z.1)]
    · rw [teachW, if_neg (fun z => c_5 z.1)]
  · have c_5 := bI_n c_5
    (try dsimp only [Gs_M] at c_5)
    refine r_iload_n dX11_teach_8 rfl rfl ?_
    refine r_callS_dI dX11_teach_9 (s_X11_isPart g _ _) mf_X11_isPart mt_X11_isPart ml_X11_127 rfl rfl (Nat.le_of_ble_eq_true rfl) ⟨(Nat.le_of_ble_eq_true rfl), (Nat.le_of_ble_eq_true rfl)⟩ ⟨(Nat.le_of_ble_eq_true rfl), (Nat.le_of_ble_eq_true rfl)⟩ ?_
    refine r_if_eq (tgt := 25) dX11_teach_12 (by decide) (fun c_12 => ?_) (fun c_12 => ?_)
    · have c_12 := bI_0 c_12
      (try dsimp only [Gs_M] at c_12)
      refine r_iconst (v := (-1)) dX11_teach_25 (by decide) ?_
      refine r_iret dX11_teach_26 rfl (Nat.le_refl _) ?_
      (try dsimp only [Gs_M])
      refine ⟨_, rfl, ?_, fr.rf, ?_⟩
      · rw [teachX, if_neg (fun z => c_12 z.2.1)]
      · rw [teachW, if_neg (fun z => c_12 z.2.1)]
    · have c_12 := bI_n c_12
      (try dsimp only [Gs_M] at c_12)
      refine r_iload_n dX11_teach_15 rfl rfl ?_
      refine r_if_lt (tgt := 25) dX11_teach_16 (by decide) (fun c_16 => ?_) (fun c_16 => ?_)
      · (try dsimp only [Gs_M] at c_16)
        refine r_iconst (v := (-1)) dX11_teach_25 (by decide) ?_
        refine r_iret dX11_teach_26 rfl (Nat.le_refl _) ?_
        (try dsimp only [Gs_M])
        refine ⟨_, rfl, ?_, fr.rf, ?_⟩
        · rw [teachX, if_neg (fun z => Int32.not_lt.mpr z.2.2.1 c_16)]
        · rw [teachW, if_neg (fun z => Int32.not_lt.mpr z.2.2.1 c_16)]
      · (try dsimp only [Gs_M] at c_16)
        refine r_iload_n dX11_teach_19 rfl rfl ?_
        refine r_bipush (v := 99) dX11_teach_20 (by decide) ?_
        refine r_icmp_le (tgt := 27) dX11_teach_22 (by decide) (fun c_22 => ?_) (fun c_22 => ?_)
        · (try dsimp only [Gs_M] at c_22)
          obtain ⟨k, hk, rfl⟩ := rngP (x := x) c_5 h8 hpl
          obtain ⟨j, hj, rfl⟩ := rng (x := p) 7 (by decide) c_12
          refine r_aload_n dX11_teach_27 rfl rfl ?_
          refine r_getR (q := 1) dX11_teach_28 (ci := 11) (kf := 0) rfl (Nat.le_of_ble_eq_true rfl) (by decide) (by decide) rfl fl_X11_10 (Or.inl rfl) rfl ?_
          refine r_iload_n dX11_teach_31 rfl rfl ?_
          refine r_iload_n dX11_teach_32 rfl rfl ?_
          refine r_callV_dI (ci := 0) dX11_teach_33 (s_X0_knowing g (CoG (Or.inl rfl)) (k) (j) (by omega) (by omega)) mf_X0_knowing mi_X0_knowing se_X0_X0_X0_knowing ml_X11_165 rfl rfl (Nat.le_of_ble_eq_true rfl) rfl (by decide) rfl (Nat.le_of_ble_eq_true rfl) ⟨(Nat.le_of_ble_eq_true rfl), (Nat.le_of_ble_eq_true rfl)⟩ ⟨(Nat.le_of_ble_eq_true rfl), (Nat.le_of_ble_eq_true rfl)⟩ ?_
          refine r_istore dX11_teach_36 (by decide) ?_
          refine r_aload_n dX11_teach_38 rfl rfl ?_
          refine r_getR (q := 1) dX11_teach_39 (ci := 11) (kf := 0) rfl (Nat.le_of_ble_eq_true rfl) (by decide) (by decide) rfl fl_X11_10 (Or.inl rfl) rfl ?_
          refine r_iload_n dX11_teach_42 rfl rfl ?_
          refine r_iload_n dX11_teach_43 rfl rfl ?_
          refine r_iload_n dX11_teach_44 rfl rfl ?_
          refine r_callV_dV (ci := 0) dX11_teach_45 (s_X0_learnTo g (CoG (Or.inl rfl)) (k) (j) (by omega) (by omega) _) mf_X0_learnTo mi_X0_learnTo se_X0_X0_X0_learnTo ml_X11_177 rfl rfl (Nat.le_of_ble_eq_true rfl) rfl (by decide) rfl (Nat.le_of_ble_eq_true rfl) ⟨(Nat.le_of_ble_eq_true rfl), (Nat.le_of_ble_eq_true rfl)⟩ ⟨(Nat.le_of_ble_eq_true rfl), (Nat.le_of_ble_eq_true rfl)⟩ ?_
          refine r_iload dX11_teach_48 rfl ?_
          refine r_iret dX11_teach_50 rfl (Nat.le_refl _) ?_
          (try dsimp only [Gs_M])
          refine ⟨_, rfl, ?_, fr.rf.set (by decide), ?_⟩
          · rw [teachX, if_pos (⟨c_5, c_12, ⟨Int32.not_lt.mp c_16, c_22⟩⟩), cl_nI (by omega), cl_nI (by omega)]
          · rw [teachW, if_pos (⟨c_5, c_12, ⟨Int32.not_lt.mp c_16, c_22⟩⟩), cl_nI (by omega), cl_nI (by omega)]
            obtain ⟨jv, hjv, ev⟩ := rng (x := v) 99 (by decide) ⟨Int32.not_lt.mp c_16, c_22⟩
            subst ev
            exact (vs_n (b := 1) (by omega) (by omega)).trans (by rw [held_i hjv])
        · (try dsimp only [Gs_M] at c_22)
          refine r_iconst (v := (-1)) dX11_teach_25 (by decide) ?_
          refine r_iret dX11_teach_26 rfl (Nat.le_refl _) ?_
          (try dsimp only [Gs_M])
          refine ⟨_, rfl, ?_, fr.rf, ?_⟩
          · rw [teachX, if_neg (fun z => c_22 z.2.2.2)]
          · rw [teachW, if_neg (fun z => c_22 z.2.2.2)]
set_option maxRecDepth 20000 in
set_option maxHeartbeats 1000000 in
theorem s_X11_seed (g : pG) {S : pS} (hS : sOk S) (v : Int32) : MS g mX11_seed 1 0 0 [.ref 0, .int v] (S) (eI (fun rx S1 => rx = id ((vw (S) 1) 5) ∧ fr [1] (S) S1 ∧ vw S1 1 = upd (vw (S) 1) 5 v)) := by
  obtain ⟨M0, rfl⟩ := sOk_gs hS
  refine MS.of pn_X11 (Nat.le_of_ble_eq_true rfl) ?_
  refine r_aload_n dX11_seed_0 rfl rfl ?_
  refine r_getR (q := 1) dX11_seed_1 (ci := 11) (kf := 0) rfl (Nat.le_of_ble_eq_true rfl) (by decide) (by decide) rfl fl_X11_10 (Or.inl rfl) rfl ?_
  refine r_getI dX11_seed_4 (ci := 0) (kf := 9) rfl (Nat.le_of_ble_eq_true rfl) (by decide) (by decide) rfl fl_X11_104 (Or.inl rfl) ?_
  refine r_istore_n dX11_seed_7 rfl (by decide) ?_
  refine r_aload_n dX11_seed_8 rfl rfl ?_
  refine r_getR (q := 1) dX11_seed_9 (ci := 11) (kf := 0) rfl (Nat.le_of_ble_eq_true rfl) (by decide) (by decide) rfl fl_X11_10 (Or.inl rfl) rfl ?_
  refine r_iload_n dX11_seed_12 rfl rfl ?_
  refine r_putI dX11_seed_13 (ci := 0) (kf := 9) rfl (Nat.le_of_ble_eq_true rfl) (by decide) (by decide) rfl fl_X11_104 (Or.inl rfl) rfl rfl rfl ?_
  refine r_iload_n dX11_seed_16 rfl rfl ?_
  refine r_iret dX11_seed_17 rfl (Nat.le_refl _) ?_
  (try dsimp only [Gs_M])
  exact ⟨_, rfl, rfl, fr.rf.set (by decide), vs_5⟩
theorem sw_neg {x : Int32} {hi : Int32} {P : Prop} (n : Nat) (hM : hi.toInt = (n : Int)) (h : ∀ j, j ≤ n → ¬ x = nI j) (z : 0 ≤ x ∧ x ≤ hi) : P := absurd z (sw_no n hM h)
theorem in_c {x hi : Int32} (c : Nat) (n : Nat) (hM : hi.toInt = (n : Int)) (hc : c ≤ n) (hn : n < 2 ^ 31) (e : x = nI c) : 0 ≤ x ∧ x ≤ hi := by
  subst e
  exact ⟨nI_pos' (by omega), by rw [Int32.le_iff_toInt_le, hM, nI_toInt (by omega)]; omega⟩
set_option maxRecDepth 20000 in
set_option maxHeartbeats 1000000 in
theorem s_X11_does (g : pG) {S : pS} (hS : sOk S) (hI : InvR (vw S 1)) (hN : InvN (vw S 1)) (x : Int32) (p : Int32) (w : Int32) : MS g mX11_does 2 0 0 [.ref 0, .int x, .int p, .int w] (S) (eI (fun rx S1 => rx = doesX (vw (S) 1) x p w ∧ fr [] (S) S1)) := by
  obtain ⟨M0, rfl⟩ := sOk_gs hS
  obtain ⟨h8, hpl⟩ := hI.pl
  refine MS.of pn_X11 (Nat.le_of_ble_eq_true rfl) ?_
  refine r_aload_n dX11_does_0 rfl rfl ?_
  refine r_iload_n dX11_does_1 rfl rfl ?_
  refine r_callV_dI (ci := 11) dX11_does_2 (s_X11_isPlayer g hS hI _) mf_X11_isPlayer mi_X11_isPlayer se_X11_X11_X11_isPlayer ml_X11_150 rfl rfl (Nat.le_of_ble_eq_true rfl) rfl (by decide) rfl (Nat.le_of_ble_eq_true rfl) ⟨(Nat.le_of_ble_eq_true rfl), (Nat.le_of_ble_eq_true rfl)⟩ ⟨(Nat.le_of_ble_eq_true rfl), (Nat.le_of_ble_eq_true rfl)⟩ ?_
  refine r_if_eq (tgt := 15) dX11_does_5 (by decide) (fun c_5 => ?_) (fun c_5 => ?_)
  · have c_5 := bI_0 c_5
    (try dsimp only [Gs_M] at c_5)
    refine r_iconst (v := (-1)) dX11_does_15 (by decide) ?_
    refine r_iret dX11_does_16 rfl (Nat.le_refl _) ?_
    (try dsimp only [Gs_M])
    refine ⟨_, rfl, ?_, fr.rf⟩
    · rw [doesX, if_neg (fun z => c_5 z.1)]
  · have c_5 := bI_n c_5
    (try dsimp only [Gs_M] at c_5)
    refine r_iload_n dX11_does_8 rfl rfl ?_
    refine r_callS_dI dX11_does_9 (s_X11_isPart g _ _) mf_X11_isPart mt_X11_isPart ml_X11_127 rfl rfl (Nat.le_of_ble_eq_true rfl) ⟨(Nat.le_of_ble_eq_true rfl), (Nat.le_of_ble_eq_true rfl)⟩ ⟨(Nat.le_of_ble_eq_true rfl), (Nat.le_of_ble_eq_true rfl)⟩ ?_
    refine r_if_ne (tgt := 17) dX11_does_12 (by decide) (fun c_12 => ?_) (fun c_12 => ?_)
    · have c_12 := bI_n c_12
      (try dsimp only [Gs_M] at c_12)
      obtain ⟨k, hk, rfl⟩ := rngP (x := x) c_5 h8 hpl
      obtain ⟨j, hj, rfl⟩ := rng (x := p) 7 (by decide) c_12
      refine r_iload_n dX11_does_17 rfl rfl ?_
      by_cases e_18_0 : w = 0
      · refine r_tableAt (tgt := 44) 0 dX11_does_18 e_18_0 (by decide) (by decide) rfl (by decide) ?_
        refine r_sipush (v := 1000) dX11_does_44 (by decide) ?_
        refine r_aload_n dX11_does_47 rfl rfl ?_
        refine r_getR (q := 1) dX11_does_48 (ci := 11) (kf := 0) rfl (Nat.le_of_ble_eq_true rfl) (by decide) (by decide) rfl fl_X11_10 (Or.inl rfl) rfl ?_
        refine r_iload_n dX11_does_51 rfl rfl ?_
        refine r_iload_n dX11_does_52 rfl rfl ?_
        refine r_callV_dI (ci := 0) dX11_does_53 (s_X0_good g (CoG (Or.inl rfl)) (k) (j) (by omega) (by omega)) mf_X0_good mi_X0_good se_X0_X0_X0_good ml_X11_168 rfl rfl (Nat.le_of_ble_eq_true rfl) rfl (by decide) rfl (Nat.le_of_ble_eq_true rfl) ⟨(Nat.le_of_ble_eq_true rfl), (Nat.le_of_ble_eq_true rfl)⟩ ⟨(Nat.le_of_ble_eq_true rfl), (Nat.le_of_ble_eq_true rfl)⟩ ?_
        refine r_iadd dX11_does_56 ?_
        refine r_iret dX11_does_57 rfl (Nat.le_refl _) ?_
        (try dsimp only [Gs_M])
        refine ⟨_, rfl, ?_, fr.rf⟩
        rw [doesX, if_pos ⟨c_5, c_12, in_c 0 2 (by decide) (by omega) (by omega) e_18_0⟩, cl_nI (by omega), cl_nI (by omega), if_pos e_18_0]
      by_cases e_18_1 : w = 1
      · refine r_tableAt (tgt := 58) 1 dX11_does_18 e_18_1 (by decide) (by decide) rfl (by decide) ?_
        refine r_sipush (v := 1000) dX11_does_58 (by decide) ?_
        refine r_aload_n dX11_does_61 rfl rfl ?_
        refine r_getR (q := 1) dX11_does_62 (ci := 11) (kf := 0) rfl (Nat.le_of_ble_eq_true rfl) (by decide) (by decide) rfl fl_X11_10 (Or.inl rfl) rfl ?_
        refine r_iload_n dX11_does_65 rfl rfl ?_
        refine r_callV_dI (ci := 0) dX11_does_66 (s_X0_learns g (CoG (Or.inl rfl)) (k) (by omega)) mf_X0_learns mi_X0_learns se_X0_X0_X0_learns ml_X11_171 rfl rfl (Nat.le_of_ble_eq_true rfl) rfl (by decide) rfl (Nat.le_of_ble_eq_true rfl) ⟨(Nat.le_of_ble_eq_true rfl), (Nat.le_of_ble_eq_true rfl)⟩ ⟨(Nat.le_of_ble_eq_true rfl), (Nat.le_of_ble_eq_true rfl)⟩ ?_
        refine r_iadd dX11_does_69 ?_
        refine r_iret dX11_does_70 rfl (Nat.le_refl _) ?_
        (try dsimp only [Gs_M])
        refine ⟨_, rfl, ?_, fr.rf⟩
        rw [doesX, if_pos ⟨c_5, c_12, in_c 1 2 (by decide) (by omega) (by omega) e_18_1⟩, cl_nI (by omega), if_neg e_18_0, if_pos e_18_1]
      by_cases e_18_2 : w = 2
      · refine r_tableAt (tgt := 71) 2 dX11_does_18 e_18_2 (by decide) (by decide) rfl (by decide) ?_
        refine r_sipush (v := 1000) dX11_does_71 (by decide) ?_
        refine r_aload_n dX11_does_74 rfl rfl ?_
        refine r_getR (q := 1) dX11_does_75 (ci := 11) (kf := 0) rfl (Nat.le_of_ble_eq_true rfl) (by decide) (by decide) rfl fl_X11_10 (Or.inl rfl) rfl ?_
        refine r_iload_n dX11_does_78 rfl rfl ?_
        refine r_callV_dI (ci := 0) dX11_does_79 (s_X0_forgets g (CoG (Or.inl rfl)) (k) (by omega)) mf_X0_forgets mi_X0_forgets se_X0_X0_X0_forgets ml_X11_174 rfl rfl (Nat.le_of_ble_eq_true rfl) rfl (by decide) rfl (Nat.le_of_ble_eq_true rfl) ⟨(Nat.le_of_ble_eq_true rfl), (Nat.le_of_ble_eq_true rfl)⟩ ⟨(Nat.le_of_ble_eq_true rfl), (Nat.le_of_ble_eq_true rfl)⟩ ?_
        refine r_iadd dX11_does_82 ?_
        refine r_iret dX11_does_83 rfl (Nat.le_refl _) ?_
        (try dsimp only [Gs_M])
        refine ⟨_, rfl, ?_, fr.rf⟩
        rw [doesX, if_pos ⟨c_5, c_12, in_c 2 2 (by decide) (by omega) (by omega) e_18_2⟩, cl_nI (by omega), if_neg e_18_0, if_neg e_18_1]
      refine r_tableOut (tgt := 84) dX11_does_18 (out_of2 (lo := 0) (n := 2) (by decide) (fun j hl hj => ?_)) (by decide) ?_
      · rcases (by omega : j = 0 ∨ j = 1 ∨ j = 2) with rfl | rfl | rfl
        · exact e_18_0
        · exact e_18_1
        · exact e_18_2
      refine r_iconst (v := (-1)) dX11_does_84 (by decide) ?_
      refine r_iret dX11_does_85 rfl (Nat.le_refl _) ?_
      (try dsimp only [Gs_M])
      refine ⟨_, rfl, ?_, fr.rf⟩
      rw [doesX, if_neg (fun z => sw_no (x := w) (hi := 2) 2 (by decide) (fun j hj => by
        rcases (by omega : j = 0 ∨ j = 1 ∨ j = 2) with rfl | rfl | rfl
        · exact e_18_0
        · exact e_18_1
        · exact e_18_2) z.2.2)]
    · have c_12 := bI_0 c_12
      (try dsimp only [Gs_M] at c_12)
      refine r_iconst (v := (-1)) dX11_does_15 (by decide) ?_
      refine r_iret dX11_does_16 rfl (Nat.le_refl _) ?_
      (try dsimp only [Gs_M])
      refine ⟨_, rfl, ?_, fr.rf⟩
      · rw [doesX, if_neg (fun z => c_12 z.2.1)]
set_option maxRecDepth 20000 in
set_option maxHeartbeats 1000000 in
theorem s_X11_of (g : pG) {S : pS} (hS : sOk S) (hI : InvR (vw S 1)) (hN : InvN (vw S 1)) (x : Int32) (w : Int32) : MS g mX11_of 4 0 0 [.ref 0, .int x, .int w] (S) (eI (fun rx S1 => rx = ofX (vw (S) 1) x w ∧ fr [8, 9] (S) S1)) := by
  obtain ⟨M0, rfl⟩ := sOk_gs hS
  obtain ⟨h8, hpl⟩ := hI.pl
  refine MS.of pn_X11 (Nat.le_of_ble_eq_true rfl) ?_
  refine r_aload_n dX11_of_0 rfl rfl ?_
  refine r_iload_n dX11_of_1 rfl rfl ?_
  refine r_callV_dI (ci := 11) dX11_of_2 (s_X11_isPlayer g hS hI _) mf_X11_isPlayer mi_X11_isPlayer se_X11_X11_X11_isPlayer ml_X11_150 rfl rfl (Nat.le_of_ble_eq_true rfl) rfl (by decide) rfl (Nat.le_of_ble_eq_true rfl) ⟨(Nat.le_of_ble_eq_true rfl), (Nat.le_of_ble_eq_true rfl)⟩ ⟨(Nat.le_of_ble_eq_true rfl), (Nat.le_of_ble_eq_true rfl)⟩ ?_
  refine r_if_ne (tgt := 10) dX11_of_5 (by decide) (fun c_5 => ?_) (fun c_5 => ?_)
  · have c_5 := bI_n c_5
    (try dsimp only [Gs_M] at c_5)
    obtain ⟨k, hk, rfl⟩ := rngP (x := x) c_5 h8 hpl
    refine r_iload_n dX11_of_10 rfl rfl ?_
    by_cases e_11_0 : w = 0
    · refine r_tableAt (tgt := 40) 0 dX11_of_11 e_11_0 (by decide) (by decide) rfl (by decide) ?_
      refine r_aload_n dX11_of_40 rfl rfl ?_
      refine r_getR (q := 1) dX11_of_41 (ci := 11) (kf := 0) rfl (Nat.le_of_ble_eq_true rfl) (by decide) (by decide) rfl fl_X11_10 (Or.inl rfl) rfl ?_
      refine r_getR (q := (1 + 3)) dX11_of_44 (ci := 0) (kf := 2) rfl (Nat.le_of_ble_eq_true rfl) (by decide) (by decide) rfl fl_X11_153 (Or.inl rfl) (CoG (Or.inl rfl)).2.2.2.2.2.1 ?_
      refine r_iload_n dX11_of_47 rfl rfl ?_
      refine r_iald (j := k) dX11_of_48 (CoG (Or.inl rfl)).2.2.1.2.2.1 (Co_la3 (CoG (Or.inl rfl))) rfl (by omega) (by decide) ?_
      refine r_iret dX11_of_49 rfl (Nat.le_refl _) ?_
      (try dsimp only [Gs_M])
      refine ⟨_, rfl, ?_, fr.rf⟩
      rw [ofX, if_pos ⟨c_5, in_c 0 3 (by decide) (by omega) (by omega) e_11_0⟩, cl_nI (by omega), if_neg (by rw [e_11_0]; decide), e_11_0]
      exact (vw_k (S := Gs M0) (b := 1) (k := k) (by omega)).symm
    by_cases e_11_1 : w = 1
    · refine r_tableAt (tgt := 50) 1 dX11_of_11 e_11_1 (by decide) (by decide) rfl (by decide) ?_
      refine r_aload_n dX11_of_50 rfl rfl ?_
      refine r_getR (q := 1) dX11_of_51 (ci := 11) (kf := 0) rfl (Nat.le_of_ble_eq_true rfl) (by decide) (by decide) rfl fl_X11_10 (Or.inl rfl) rfl ?_
      refine r_getR (q := (1 + 4)) dX11_of_54 (ci := 0) (kf := 3) rfl (Nat.le_of_ble_eq_true rfl) (by decide) (by decide) rfl fl_X11_156 (Or.inl rfl) (CoG (Or.inl rfl)).2.2.2.2.2.2.1 ?_
      refine r_iload_n dX11_of_57 rfl rfl ?_
      refine r_iald (j := k) dX11_of_58 (CoG (Or.inl rfl)).2.2.1.2.2.2.1 (Co_la4 (CoG (Or.inl rfl))) rfl (by omega) (by decide) ?_
      refine r_iret dX11_of_59 rfl (Nat.le_refl _) ?_
      (try dsimp only [Gs_M])
      refine ⟨_, rfl, ?_, fr.rf⟩
      rw [ofX, if_pos ⟨c_5, in_c 1 3 (by decide) (by omega) (by omega) e_11_1⟩, cl_nI (by omega), if_neg (by rw [e_11_1]; decide), e_11_1]
      exact (vw_o (S := Gs M0) (b := 1) (k := k) (by omega)).symm
    by_cases e_11_2 : w = 2
    · refine r_tableAt (tgt := 60) 2 dX11_of_11 e_11_2 (by decide) (by decide) rfl (by decide) ?_
      refine r_aload_n dX11_of_60 rfl rfl ?_
      refine r_getR (q := 1) dX11_of_61 (ci := 11) (kf := 0) rfl (Nat.le_of_ble_eq_true rfl) (by decide) (by decide) rfl fl_X11_10 (Or.inl rfl) rfl ?_
      refine r_getR (q := (1 + 5)) dX11_of_64 (ci := 0) (kf := 4) rfl (Nat.le_of_ble_eq_true rfl) (by decide) (by decide) rfl fl_X11_159 (Or.inl rfl) (CoG (Or.inl rfl)).2.2.2.2.2.2.2.1 ?_
      refine r_iload_n dX11_of_67 rfl rfl ?_
      refine r_iald (j := k) dX11_of_68 (CoG (Or.inl rfl)).2.2.1.2.2.2.2.1 (Co_la5 (CoG (Or.inl rfl))) rfl (by omega) (by decide) ?_
      refine r_iret dX11_of_69 rfl (Nat.le_refl _) ?_
      (try dsimp only [Gs_M])
      refine ⟨_, rfl, ?_, fr.rf⟩
      rw [ofX, if_pos ⟨c_5, in_c 2 3 (by decide) (by omega) (by omega) e_11_2⟩, cl_nI (by omega), if_neg (by rw [e_11_2]; decide), e_11_2]
      exact (vw_i (S := Gs M0) (b := 1) (k := k) (by omega)).symm
    by_cases e_11_3 : w = 3
    · refine r_tableAt (tgt := 70) 3 dX11_of_11 e_11_3 (by decide) (by decide) rfl (by decide) ?_
      refine r_aload_n dX11_of_70 rfl rfl ?_
      refine r_getR (q := 1) dX11_of_71 (ci := 11) (kf := 0) rfl (Nat.le_of_ble_eq_true rfl) (by decide) (by decide) rfl fl_X11_10 (Or.inl rfl) rfl ?_
      refine r_callV_eV (ci := 0) dX11_of_74 (s_X0_makeBill g (CoG (Or.inl rfl)) hI hN) mf_X0_makeBill mi_X0_makeBill se_X0_X0_X0_makeBill ml_X11_133 rfl rfl (Nat.le_of_ble_eq_true rfl) rfl (by decide) rfl (Nat.le_of_ble_eq_true rfl) ⟨(Nat.le_of_ble_eq_true rfl), (Nat.le_of_ble_eq_true rfl)⟩ ⟨(Nat.le_of_ble_eq_true rfl), (Nat.le_of_ble_eq_true rfl)⟩ (fun S_74 q_74 z_74 => ?_)
      obtain ⟨f74, bc74, br74⟩ := q_74
      obtain ⟨Ma, rfl⟩ := sOk_gs (f74.ok hS)
      refine r_aload_n dX11_of_77 rfl rfl ?_
      refine r_getR (q := 1) dX11_of_78 (ci := 11) (kf := 0) rfl (Nat.le_of_ble_eq_true rfl) (by decide) (by decide) rfl fl_X11_10 (Or.inl rfl) rfl ?_
      refine r_getR (q := (1 + 8)) dX11_of_81 (ci := 0) (kf := 11) rfl (Nat.le_of_ble_eq_true rfl) (by decide) (by decide) rfl fl_X11_162 (Or.inl rfl) (CoG (Or.inl rfl)).2.2.2.2.2.2.2.2.2.2 ?_
      refine r_iload_n dX11_of_84 rfl rfl ?_
      refine r_iald (j := k) dX11_of_85 (CoG (Or.inl rfl)).2.2.1.2.2.2.2.2.2.2 (Co_la8 (CoG (Or.inl rfl))) rfl (by omega) (by decide) ?_
      refine r_iret dX11_of_86 rfl (Nat.le_refl _) ?_
      (try dsimp only [Gs_M])
      refine ⟨_, rfl, ?_, f74⟩
      rw [ofX, if_pos ⟨c_5, in_c 3 3 (by decide) (by omega) (by omega) e_11_3⟩, cl_nI (by omega), if_pos (by rw [e_11_3]; decide)]
      exact br74 k hk
    refine r_tableOut (tgt := 87) dX11_of_11 (out_of2 (lo := 0) (n := 3) (by decide) (fun j hl hj => ?_)) (by decide) ?_
    · rcases (by omega : j = 0 ∨ j = 1 ∨ j = 2 ∨ j = 3) with rfl | rfl | rfl | rfl
      · exact e_11_0
      · exact e_11_1
      · exact e_11_2
      · exact e_11_3
    refine r_iconst (v := (-1)) dX11_of_87 (by decide) ?_
    refine r_iret dX11_of_88 rfl (Nat.le_refl _) ?_
    (try dsimp only [Gs_M])
    refine ⟨_, rfl, ?_, fr.rf⟩
    rw [ofX, if_neg (fun z => sw_no (x := w) (hi := 3) 3 (by decide) (fun j hj => by
      rcases (by omega : j = 0 ∨ j = 1 ∨ j = 2 ∨ j = 3) with rfl | rfl | rfl | rfl
      · exact e_11_0
      · exact e_11_1
      · exact e_11_2
      · exact e_11_3) z.2)]
  · have c_5 := bI_0 c_5
    (try dsimp only [Gs_M] at c_5)
    refine r_iconst (v := (-1)) dX11_of_8 (by decide) ?_
    refine r_iret dX11_of_9 rfl (Nat.le_refl _) ?_
    (try dsimp only [Gs_M])
    refine ⟨_, rfl, ?_, fr.rf⟩
    · rw [ofX, if_neg (fun z => c_5 z.1)]
set_option maxRecDepth 20000 in
set_option maxHeartbeats 1000000 in
theorem s_X11_partOf (g : pG) {S : pS} (hS : sOk S) (hI : InvR (vw S 1)) (hN : InvN (vw S 1)) (p : Int32) (w : Int32) : MS g mX11_partOf 4 0 0 [.ref 0, .int p, .int w] (S) (eI (fun rx S1 => rx = partX (vw (S) 1) p w ∧ fr [8, 9] (S) S1)) := by
  obtain ⟨M0, rfl⟩ := sOk_gs hS
  obtain ⟨h8, hpl⟩ := hI.pl
  refine MS.of pn_X11 (Nat.le_of_ble_eq_true rfl) ?_
  refine r_iload_n dX11_partOf_0 rfl rfl ?_
  refine r_callS_dI dX11_partOf_1 (s_X11_isPart g _ _) mf_X11_isPart mt_X11_isPart ml_X11_127 rfl rfl (Nat.le_of_ble_eq_true rfl) ⟨(Nat.le_of_ble_eq_true rfl), (Nat.le_of_ble_eq_true rfl)⟩ ⟨(Nat.le_of_ble_eq_true rfl), (Nat.le_of_ble_eq_true rfl)⟩ ?_
  refine r_if_ne (tgt := 9) dX11_partOf_4 (by decide) (fun c_4 => ?_) (fun c_4 => ?_)
  · have c_4 := bI_n c_4
    (try dsimp only [Gs_M] at c_4)
    obtain ⟨j1, hj1, rfl⟩ := rng (x := p) 7 (by decide) c_4
    refine r_iload_n dX11_partOf_9 rfl rfl ?_
    by_cases e_10_0 : w = 0
    · refine r_tableAt (tgt := 36) 0 dX11_partOf_10 e_10_0 (by decide) (by decide) rfl (by decide) ?_
      refine r_aload_n dX11_partOf_36 rfl rfl ?_
      refine r_getR (q := 1) dX11_partOf_37 (ci := 11) (kf := 0) rfl (Nat.le_of_ble_eq_true rfl) (by decide) (by decide) rfl fl_X11_10 (Or.inl rfl) rfl ?_
      refine r_getR (q := (1 + 2)) dX11_partOf_40 (ci := 0) (kf := 1) rfl (Nat.le_of_ble_eq_true rfl) (by decide) (by decide) rfl fl_X11_130 (Or.inl rfl) (CoG (Or.inl rfl)).2.2.2.2.1 ?_
      refine r_iload_n dX11_partOf_43 rfl rfl ?_
      refine r_iald (j := j1) dX11_partOf_44 (CoG (Or.inl rfl)).2.2.1.2.1 (Co_la2 (CoG (Or.inl rfl))) rfl (by omega) (by decide) ?_
      refine r_iret dX11_partOf_45 rfl (Nat.le_refl _) ?_
      (try dsimp only [Gs_M])
      refine ⟨_, rfl, ?_, fr.rf⟩
      rw [partX, if_pos ⟨c_4, in_c 0 2 (by decide) (by omega) (by omega) e_10_0⟩, if_pos e_10_0, cl_nI (by omega)]
      exact (vw_w (S := Gs M0) (b := 1) (p := j1) (by omega)).symm
    by_cases e_10_1 : w = 1
    · refine r_tableAt (tgt := 46) 1 dX11_partOf_10 e_10_1 (by decide) (by decide) rfl (by decide) ?_
      refine r_aload_n dX11_partOf_46 rfl rfl ?_
      refine r_getR (q := 1) dX11_partOf_47 (ci := 11) (kf := 0) rfl (Nat.le_of_ble_eq_true rfl) (by decide) (by decide) rfl fl_X11_10 (Or.inl rfl) rfl ?_
      refine r_callV_eV (ci := 0) dX11_partOf_50 (s_X0_makeBill g (CoG (Or.inl rfl)) hI hN) mf_X0_makeBill mi_X0_makeBill se_X0_X0_X0_makeBill ml_X11_133 rfl rfl (Nat.le_of_ble_eq_true rfl) rfl (by decide) rfl (Nat.le_of_ble_eq_true rfl) ⟨(Nat.le_of_ble_eq_true rfl), (Nat.le_of_ble_eq_true rfl)⟩ ⟨(Nat.le_of_ble_eq_true rfl), (Nat.le_of_ble_eq_true rfl)⟩ (fun S_50 q_50 z_50 => ?_)
      obtain ⟨f50, bc50, br50⟩ := q_50
      obtain ⟨Ma, rfl⟩ := sOk_gs (f50.ok hS)
      refine r_aload_n dX11_partOf_53 rfl rfl ?_
      refine r_getR (q := 1) dX11_partOf_54 (ci := 11) (kf := 0) rfl (Nat.le_of_ble_eq_true rfl) (by decide) (by decide) rfl fl_X11_10 (Or.inl rfl) rfl ?_
      refine r_getR (q := (1 + 7)) dX11_partOf_57 (ci := 0) (kf := 10) rfl (Nat.le_of_ble_eq_true rfl) (by decide) (by decide) rfl fl_X11_136 (Or.inl rfl) (CoG (Or.inl rfl)).2.2.2.2.2.2.2.2.2.1 ?_
      refine r_iload_n dX11_partOf_60 rfl rfl ?_
      refine r_iald (j := j1) dX11_partOf_61 (CoG (Or.inl rfl)).2.2.1.2.2.2.2.2.2.1 (Co_la7 (CoG (Or.inl rfl))) rfl (by omega) (by decide) ?_
      refine r_iconst (v := (-1)) dX11_partOf_62 (by decide) ?_
      refine r_icmp_ne (tgt := 70) dX11_partOf_63 (by decide) (fun c_63 => ?_) (fun c_63 => ?_)
      · (try dsimp only [Gs_M] at c_63)
        refine r_iconst (v := 1) dX11_partOf_70 (by decide) ?_
        refine r_aload_n dX11_partOf_71 rfl rfl ?_
        refine r_getR (q := 1) dX11_partOf_72 (ci := 11) (kf := 0) rfl (Nat.le_of_ble_eq_true rfl) (by decide) (by decide) rfl fl_X11_10 (Or.inl rfl) rfl ?_
        refine r_getR (q := (1 + 7)) dX11_partOf_75 (ci := 0) (kf := 10) rfl (Nat.le_of_ble_eq_true rfl) (by decide) (by decide) rfl fl_X11_136 (Or.inl rfl) (CoG (Or.inl rfl)).2.2.2.2.2.2.2.2.2.1 ?_
        refine r_iload_n dX11_partOf_78 rfl rfl ?_
        refine r_iald (j := j1) dX11_partOf_79 (CoG (Or.inl rfl)).2.2.1.2.2.2.2.2.2.1 (Co_la7 (CoG (Or.inl rfl))) rfl (by omega) (by decide) ?_
        refine r_iadd dX11_partOf_80 ?_
        refine r_iret dX11_partOf_81 rfl (Nat.le_refl _) ?_
        (try dsimp only [Gs_M])
        refine ⟨_, rfl, ?_, f50⟩
        rw [partX, if_pos ⟨c_4, in_c 1 2 (by decide) (by omega) (by omega) e_10_1⟩, if_neg e_10_0, if_pos e_10_1, cl_nI (by omega)]
        rw [← bc50 j1 (by omega)]
        exact Int32.add_comm _ _
      · (try dsimp only [Gs_M] at c_63)
        refine r_iconst (v := 0) dX11_partOf_66 (by decide) ?_
        refine r_goto (tgt := 81) dX11_partOf_67 (by decide) ?_
        refine r_iret dX11_partOf_81 rfl (Nat.le_refl _) ?_
        (try dsimp only [Gs_M])
        refine ⟨_, rfl, ?_, f50⟩
        rw [partX, if_pos ⟨c_4, in_c 1 2 (by decide) (by omega) (by omega) e_10_1⟩, if_neg e_10_0, if_pos e_10_1, cl_nI (by omega)]
        rw [← bc50 j1 (by omega), show (Gs Ma).2.2.2 (1 + 7) j1 = -1 from c_63]
        rfl
    by_cases e_10_2 : w = 2
    · refine r_tableAt (tgt := 82) 2 dX11_partOf_10 e_10_2 (by decide) (by decide) rfl (by decide) ?_
      refine r_aload_n dX11_partOf_82 rfl rfl ?_
      refine r_getR (q := 1) dX11_partOf_83 (ci := 11) (kf := 0) rfl (Nat.le_of_ble_eq_true rfl) (by decide) (by decide) rfl fl_X11_10 (Or.inl rfl) rfl ?_
      refine r_iload_n dX11_partOf_86 rfl rfl ?_
      refine r_callV_dI (ci := 0) dX11_partOf_87 (s_X0_ownersOf g (CoG (Or.inl rfl)) hI _) mf_X0_ownersOf mi_X0_ownersOf se_X0_X0_X0_ownersOf ml_X11_139 rfl rfl (Nat.le_of_ble_eq_true rfl) rfl (by decide) rfl (Nat.le_of_ble_eq_true rfl) ⟨(Nat.le_of_ble_eq_true rfl), (Nat.le_of_ble_eq_true rfl)⟩ ⟨(Nat.le_of_ble_eq_true rfl), (Nat.le_of_ble_eq_true rfl)⟩ ?_
      refine r_iret dX11_partOf_90 rfl (Nat.le_refl _) ?_
      (try dsimp only [Gs_M])
      refine ⟨_, rfl, ?_, fr.rf⟩
      rw [partX, if_pos ⟨c_4, in_c 2 2 (by decide) (by omega) (by omega) e_10_2⟩, if_neg e_10_0, if_neg e_10_1]
    refine r_tableOut (tgt := 91) dX11_partOf_10 (out_of2 (lo := 0) (n := 2) (by decide) (fun j hl hj => ?_)) (by decide) ?_
    · rcases (by omega : j = 0 ∨ j = 1 ∨ j = 2) with rfl | rfl | rfl
      · exact e_10_0
      · exact e_10_1
      · exact e_10_2
    refine r_iconst (v := (-1)) dX11_partOf_91 (by decide) ?_
    refine r_iret dX11_partOf_92 rfl (Nat.le_refl _) ?_
    (try dsimp only [Gs_M])
    refine ⟨_, rfl, ?_, fr.rf⟩
    rw [partX, if_neg (fun z => sw_no (x := w) (hi := 2) 2 (by decide) (fun j hj => by
      rcases (by omega : j = 0 ∨ j = 1 ∨ j = 2) with rfl | rfl | rfl
      · exact e_10_0
      · exact e_10_1
      · exact e_10_2) z.2)]
  · have c_4 := bI_0 c_4
    (try dsimp only [Gs_M] at c_4)
    refine r_iconst (v := (-1)) dX11_partOf_7 (by decide) ?_
    refine r_iret dX11_partOf_8 rfl (Nat.le_refl _) ?_
    (try dsimp only [Gs_M])
    refine ⟨_, rfl, ?_, fr.rf⟩
    · rw [partX, if_neg (fun z => c_4 z.1)]
set_option maxRecDepth 20000 in
set_option maxHeartbeats 1000000 in
theorem s_X11_player (g : pG) {S : pS} (hS : sOk S) (hI : InvR (vw S 1)) (hN : InvN (vw S 1)) (kd : Int32) (p : Int32) : MS g mX11_player 4 0 0 [.ref 0, .int kd, .int p] (S) (eI (fun rx S1 => rx = playerX (vw (S) 1) kd p ∧ fr [1, 4, 5, 6, 7] (S) S1 ∧ vw S1 1 = playerW (vw (S) 1) kd p)) := by
  obtain ⟨M0, rfl⟩ := sOk_gs hS
  obtain ⟨h8, hpl⟩ := hI.pl
  refine MS.of pn_X11 (Nat.le_of_ble_eq_true rfl) ?_
  refine r_iload_n dX11_player_0 rfl rfl ?_
  refine r_callS_dI dX11_player_1 (s_X11_isKind g _ _) mf_X11_isKind mt_X11_isKind ml_X11_143 rfl rfl (Nat.le_of_ble_eq_true rfl) ⟨(Nat.le_of_ble_eq_true rfl), (Nat.le_of_ble_eq_true rfl)⟩ ⟨(Nat.le_of_ble_eq_true rfl), (Nat.le_of_ble_eq_true rfl)⟩ ?_
  refine r_if_eq (tgt := 14) dX11_player_4 (by decide) (fun c_4 => ?_) (fun c_4 => ?_)
  · have c_4 := bI_0 c_4
    (try dsimp only [Gs_M] at c_4)
    refine r_iconst (v := (-1)) dX11_player_14 (by decide) ?_
    refine r_iret dX11_player_15 rfl (Nat.le_refl _) ?_
    (try dsimp only [Gs_M])
    refine ⟨_, rfl, ?_, fr.rf, ?_⟩
    · rw [playerX, if_neg (fun z => c_4 z.1)]
    · rw [playerW, if_neg (fun z => c_4 z.1)]
  · have c_4 := bI_n c_4
    (try dsimp only [Gs_M] at c_4)
    refine r_iload_n dX11_player_7 rfl rfl ?_
    refine r_callS_dI dX11_player_8 (s_X11_isPart g _ _) mf_X11_isPart mt_X11_isPart ml_X11_127 rfl rfl (Nat.le_of_ble_eq_true rfl) ⟨(Nat.le_of_ble_eq_true rfl), (Nat.le_of_ble_eq_true rfl)⟩ ⟨(Nat.le_of_ble_eq_true rfl), (Nat.le_of_ble_eq_true rfl)⟩ ?_
    refine r_if_ne (tgt := 16) dX11_player_11 (by decide) (fun c_11 => ?_) (fun c_11 => ?_)
    · have c_11 := bI_n c_11
      (try dsimp only [Gs_M] at c_11)
      refine r_aload_n dX11_player_16 rfl rfl ?_
      refine r_getR (q := 1) dX11_player_17 (ci := 11) (kf := 0) rfl (Nat.le_of_ble_eq_true rfl) (by decide) (by decide) rfl fl_X11_10 (Or.inl rfl) rfl ?_
      refine r_getI dX11_player_20 (ci := 0) (kf := 6) rfl (Nat.le_of_ble_eq_true rfl) (by decide) (by decide) rfl fl_X11_114 (Or.inl rfl) ?_
      obtain ⟨j, hj, rfl⟩ := rng (x := p) 7 (by decide) c_11
      rw [show (Gs M0).2.2.2 1 6 = nI (plR (vw (Gs M0) 1)) from hpl]
      refine r_bipush (v := 8) dX11_player_23 (by decide) ?_
      refine r_icmp_geN (plR (vw (Gs M0) 1)) (8) (tgt := 40) dX11_player_25 (by decide) (by omega) (by omega) (fun c_25 => ?_) (fun c_25 => ?_)
      · (try dsimp only [Gs_M] at c_25)
        refine r_bipush (v := (-2)) dX11_player_40 (by decide) ?_
        refine r_iret dX11_player_42 rfl (Nat.le_refl _) ?_
        (try dsimp only [Gs_M])
        refine ⟨_, rfl, ?_, fr.rf, ?_⟩
        · rw [playerX, if_pos (⟨c_4, c_11⟩), if_pos (by rw [hpl, show plR (vw (Gs M0) 1) = 8 by omega]; rfl)]
        · rw [playerW, if_pos (⟨c_4, c_11⟩), if_pos (by rw [hpl, show plR (vw (Gs M0) 1) = 8 by omega]; rfl)]
      · (try dsimp only [Gs_M] at c_25)
        have h68 : ¬ vw (Gs M0) 1 6 = 8 := fun z => by
          rw [hpl] at z
          have := (nI_eq (a := plR (vw (Gs M0) 1)) (b := 8) (by omega) (by omega)).mp z
          omega
        refine r_aload_n dX11_player_28 rfl rfl ?_
        refine r_getR (q := 1) dX11_player_29 (ci := 11) (kf := 0) rfl (Nat.le_of_ble_eq_true rfl) (by decide) (by decide) rfl fl_X11_10 (Or.inl rfl) rfl ?_
        refine r_iload_n dX11_player_32 rfl rfl ?_
        refine r_iload_n dX11_player_33 rfl rfl ?_
        refine r_callV_eI (ci := 0) dX11_player_34 (s_X0_join g (CoG (Or.inl rfl)) (k := plR (vw (Gs M0) 1)) (by omega) hpl (j) (by omega) _) mf_X0_join mi_X0_join se_X0_X0_X0_join ml_X11_146 rfl rfl (Nat.le_of_ble_eq_true rfl) rfl (by decide) rfl (Nat.le_of_ble_eq_true rfl) ⟨(Nat.le_of_ble_eq_true rfl), (Nat.le_of_ble_eq_true rfl)⟩ ⟨(Nat.le_of_ble_eq_true rfl), (Nat.le_of_ble_eq_true rfl)⟩ (fun r_34 S_34 q_34 z_34 => ?_)
        obtain ⟨rfl, f34, v34⟩ := q_34
        refine r_goto (tgt := 42) dX11_player_37 (by decide) ?_
        refine r_iret dX11_player_42 rfl (Nat.le_refl _) ?_
        (try dsimp only [Gs_M])
        refine ⟨_, rfl, ?_, f34, ?_⟩
        · rw [playerX, if_pos (⟨c_4, c_11⟩), if_neg h68]
          exact hpl.symm
        · rw [playerW, if_pos (⟨c_4, c_11⟩), if_neg h68, cl_nI (by omega)]
          exact v34
    · have c_11 := bI_0 c_11
      (try dsimp only [Gs_M] at c_11)
      refine r_iconst (v := (-1)) dX11_player_14 (by decide) ?_
      refine r_iret dX11_player_15 rfl (Nat.le_refl _) ?_
      (try dsimp only [Gs_M])
      refine ⟨_, rfl, ?_, fr.rf, ?_⟩
      · rw [playerX, if_neg (fun z => c_11 z.2)]
      · rw [playerW, if_neg (fun z => c_11 z.2)]
