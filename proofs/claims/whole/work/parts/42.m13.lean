def kq (J F : List Nat) (S S' : pS) : Prop := sOk S' ∧ (∀ q, q ∉ J → q ≠ 54 → S'.2.2.2 q = S.2.2.2 q) ∧ ∀ f, f ∉ F → f ≠ 7 → S'.2.2.2 54 f = S.2.2.2 54 f
theorem kp.kq {J F : List Nat} {S S' : pS} (h : kp J S S') : kq J F S S' := ⟨h.1, h.2.1, fun f _ a => h.2.2 f a⟩
theorem kq.set {J F : List Nat} {S S' : pS} (h : kq J F S S') {f : Nat} {v : Int32} (hf : f ∈ F) : kq J F S (mSet S' 54 f v) := ⟨h.1, fun q a b => by rw [mSet_ne b]; exact h.2.1 q a b, fun x a b => by
  by_cases e : x = f
  · exact absurd (e ▸ hf) a
  · show upd _ _ _ _ = _
    rw [pk_un e]; exact h.2.2 x a b⟩
theorem kq.arr {J F : List Nat} {S S' : pS} (h : kq J F S S') {i k : Nat} {v : Int32} (hi : i ∈ J) (h54 : i ≠ 54) : kq J F S (mSet S' i k v) := ⟨h.1, fun q a b => by rw [mSet_ne (fun z => a (by rw [z]; exact hi))]; exact h.2.1 q a b, fun x a b => by rw [mSet_ne (Ne.symm h54)]; exact h.2.2 x a b⟩
theorem kq.rf {J F : List Nat} {S : pS} (h : sOk S) : kq J F S S := ⟨h, fun _ _ _ => rfl, fun _ _ _ => rfl⟩
def RwI (S : pS) : Prop := ∃ r, r ≤ 10 ∧ S.2.2.2 54 17 = nI r
def rowV (W : Nat → Int32) (k : Nat) : Nat → Int32 := fun j => if j = 0 then rol W k else if j = 1 then nightR W (16 + 11 * k + (3 + owR W k)) else showB W
def prvR (W : Nat → Int32) (k : Nat) (f : Nat → Int32) : Nat → Nat → Int32
  | 0 => f
  | i + 1 => upd (upd (upd (prvR W k f i) (3 * i + 0) (rowV (goR W i) k 0)) (3 * i + 1) (rowV (goR W i) k 1)) (3 * i + 2) (rowV (goR W i) k 2)
def proveX (W : Nat → Int32) (x n : Int32) : Int32 := if (0 ≤ x ∧ x ≤ W 6 - 1) ∧ 1 ≤ n ∧ n ≤ 10 then n else -1
def proveR (W f : Nat → Int32) (x n : Int32) : Nat → Int32 := if (0 ≤ x ∧ x ≤ W 6 - 1) ∧ 1 ≤ n ∧ n ≤ 10 then prvR W (cl x) f (cl n) else f
def proveN (W : Nat → Int32) (x n r : Int32) : Int32 := if (0 ≤ x ∧ x ≤ W 6 - 1) ∧ 1 ≤ n ∧ n ≤ 10 then n else r
def jdR (W : Nat → Int32) (k : Nat) (f : Nat → Int32) : Nat → Int32
  | 0 => 0
  | i + 1 => if jdR W k f i = 0 then (if f (3 * i + 0) = rowV (goR W i) k 0 ∧ f (3 * i + 1) = rowV (goR W i) k 1 ∧ f (3 * i + 2) = rowV (goR W i) k 2 then 0 else nI (1 + i)) else jdR W k f i
def judgeX (W f : Nat → Int32) (x r : Int32) : Int32 := if 0 ≤ x ∧ x ≤ W 6 - 1 then jdR W (cl x) f (cl r) else -1
theorem jdR_stop {W f : Nat → Int32} {k i : Nat} (h : ¬ jdR W k f i = 0) : ∀ m, jdR W k f (i + m) = jdR W k f i
  | 0 => rfl
  | m + 1 => by rw [← Nat.add_assoc, jdR, jdR_stop h m, if_neg h]
theorem jdR_end {W f : Nat → Int32} {k i n : Nat} (h : ¬ jdR W k f i = 0) (hn : i ≤ n) : jdR W k f i = jdR W k f n := by
  have e := jdR_stop h (n - i)
  rw [Nat.add_sub_cancel' hn] at e
  exact e.symm
theorem jdR_y {W f : Nat → Int32} {k i : Nat} (h : jdR W k f i = 0) (h0 : f (3 * i + 0) = rowV (goR W i) k 0) (h1 : f (3 * i + 1) = rowV (goR W i) k 1) (h2 : f (3 * i + 2) = rowV (goR W i) k 2) : 0 = jdR W k f (i + 1) := by rw [jdR, if_pos h, if_pos ⟨h0, h1, h2⟩]
theorem jdR_n {W f : Nat → Int32} {k i : Nat} (h : jdR W k f i = 0) (h0 : ¬ (f (3 * i + 0) = rowV (goR W i) k 0 ∧ f (3 * i + 1) = rowV (goR W i) k 1 ∧ f (3 * i + 2) = rowV (goR W i) k 2)) : nI (1 + i) = jdR W k f (i + 1) := by rw [jdR, if_pos h, if_neg h0]
set_option maxRecDepth 20000 in
set_option maxHeartbeats 1000000 in
theorem s_X12_isRow (g : pG) {S : pS} (hS : sOk S) (i w : Int32) : MS g mX12_isRow 2 0 0 [.ref 54, .int i, .int w] (S) (dI (bI ((0 ≤ i ∧ i ≤ (S).2.2.2 54 17 - 1) ∧ 0 ≤ w ∧ w ≤ 2)) S) := by
  obtain ⟨M, rfl⟩ := sOk_gs hS
  refine MS.of pn_X12 (Nat.le_of_ble_eq_true rfl) ?_
  refine r_iload_n dX12_isRow_0 rfl rfl ?_
  refine r_iconst (v := 0) dX12_isRow_1 (by decide) ?_
  refine r_aload_n dX12_isRow_2 rfl rfl ?_
  refine r_getI dX12_isRow_3 (ci := 12) (kf := 17) rfl (Nat.le_of_ble_eq_true rfl) (by decide) (by decide) rfl fl_X12_173 (Or.inl rfl) ?_
  refine r_iconst (v := 1) dX12_isRow_6 (by decide) ?_
  refine r_isub dX12_isRow_7 ?_
  refine r_callS_dI dX12_isRow_8 (s_X12_in1 g _ _ _ _) mf_X12_in1 mt_X12_in1 ml_X12_63 rfl rfl (Nat.le_of_ble_eq_true rfl) ⟨(Nat.le_of_ble_eq_true rfl), (Nat.le_of_ble_eq_true rfl)⟩ ⟨(Nat.le_of_ble_eq_true rfl), (Nat.le_of_ble_eq_true rfl)⟩ ?_
  refine r_if_eq (tgt := 27) dX12_isRow_11 (by decide) (fun c_11 => ?_) (fun c_11 => ?_)
  · have c_11 := bI_0 c_11
    (try dsimp only [Gs_M] at c_11)
    refine r_iconst (v := 0) dX12_isRow_27 (by decide) ?_
    refine r_zret dX12_isRow_28 rfl rfl (Nat.le_refl _) ?_
    (try dsimp only [Gs_M])
    exact ⟨congrArg (fun y => some (Value.int y)) (bI_f (fun z => c_11 z.1)).symm, rfl⟩
  · have c_11 := bI_n c_11
    (try dsimp only [Gs_M] at c_11)
    refine r_iload_n dX12_isRow_14 rfl rfl ?_
    refine r_iconst (v := 0) dX12_isRow_15 (by decide) ?_
    refine r_iconst (v := 2) dX12_isRow_16 (by decide) ?_
    refine r_callS_dI dX12_isRow_17 (s_X12_in1 g _ _ _ _) mf_X12_in1 mt_X12_in1 ml_X12_63 rfl rfl (Nat.le_of_ble_eq_true rfl) ⟨(Nat.le_of_ble_eq_true rfl), (Nat.le_of_ble_eq_true rfl)⟩ ⟨(Nat.le_of_ble_eq_true rfl), (Nat.le_of_ble_eq_true rfl)⟩ ?_
    refine r_if_eq (tgt := 27) dX12_isRow_20 (by decide) (fun c_20 => ?_) (fun c_20 => ?_)
    · have c_20 := bI_0 c_20
      (try dsimp only [Gs_M] at c_20)
      refine r_iconst (v := 0) dX12_isRow_27 (by decide) ?_
      refine r_zret dX12_isRow_28 rfl rfl (Nat.le_refl _) ?_
      (try dsimp only [Gs_M])
      exact ⟨congrArg (fun y => some (Value.int y)) (bI_f (fun z => c_20 z.2)).symm, rfl⟩
    · have c_20 := bI_n c_20
      (try dsimp only [Gs_M] at c_20)
      refine r_iconst (v := 1) dX12_isRow_23 (by decide) ?_
      refine r_goto (tgt := 28) dX12_isRow_24 (by decide) ?_
      refine r_zret dX12_isRow_28 rfl rfl (Nat.le_refl _) ?_
      (try dsimp only [Gs_M])
      exact ⟨congrArg (fun y => some (Value.int y)) (bI_t ⟨c_11, c_20⟩).symm, rfl⟩
def rowX (f : Nat → Int32) (r i w : Int32) : Int32 := if (0 ≤ i ∧ i ≤ r - 1) ∧ 0 ≤ w ∧ w ≤ 2 then f (3 * cl i + cl w) else -9
def altR (f : Nat → Int32) (r i w v : Int32) : Nat → Int32 := if (0 ≤ i ∧ i ≤ r - 1) ∧ 0 ≤ w ∧ w ≤ 2 then upd f (3 * cl i + cl w) v else f
theorem rngQ {x w : Int32} {pl : Nat} (h : 0 ≤ x ∧ x ≤ w - 1) (hp : pl ≤ 10) (hw : w = nI pl) : ∃ j, j < pl ∧ x = nI j := by
  have H : ∀ q : Fin 11, nI q.1 - 1 = if q.1 = 0 then -1 else nI (q.1 - 1) := by decide +kernel
  have e := H ⟨pl, by omega⟩
  rw [hw] at h
  dsimp only at e
  rw [e] at h
  by_cases z : pl = 0
  · rw [if_pos z] at h
    exact absurd (Int32.le_trans h.1 h.2) (by decide)
  · rw [if_neg z] at h
    obtain ⟨j, hj, ej⟩ := rng (x := x) (hi := nI (pl - 1)) (pl - 1) (nI_toInt (by omega)) h
    exact ⟨j, by omega, ej⟩
set_option maxRecDepth 20000 in
set_option maxHeartbeats 1000000 in
theorem s_X12_row (g : pG) {S : pS} (hS : sOk S) (hR : RwI S) (i w : Int32) : MS g mX12_row 3 0 0 [.ref 54, .int i, .int w] (S) (eI (fun rx S1 => rx = rowX (S.2.2.2 63) (S.2.2.2 54 17) i w ∧ kp [] S S1)) := by
  obtain ⟨M0, rfl⟩ := sOk_gs hS
  refine MS.of pn_X12 (Nat.le_of_ble_eq_true rfl) ?_
  refine r_aload_n dX12_row_0 rfl rfl ?_
  refine r_iload_n dX12_row_1 rfl rfl ?_
  refine r_iload_n dX12_row_2 rfl rfl ?_
  refine r_callV_dI (ci := 12) dX12_row_3 (s_X12_isRow g (by exact ⟨rfl, rfl, rfl⟩) _ _) mf_X12_isRow mi_X12_isRow se_X12_X12_X12_isRow ml_X12_247 rfl rfl (Nat.le_of_ble_eq_true rfl) rfl (by decide) rfl (Nat.le_of_ble_eq_true rfl) ⟨(Nat.le_of_ble_eq_true rfl), (Nat.le_of_ble_eq_true rfl)⟩ ⟨(Nat.le_of_ble_eq_true rfl), (Nat.le_of_ble_eq_true rfl)⟩ ?_
  refine r_if_eq (tgt := 22) dX12_row_6 (by decide) (fun c_6 => ?_) (fun c_6 => ?_)
  · have c_6 := bI_0 c_6
    (try dsimp only [Gs_M] at c_6)
    refine r_bipush (v := (-9)) dX12_row_22 (by decide) ?_
    refine r_iret dX12_row_24 rfl (Nat.le_refl _) ?_
    (try dsimp only [Gs_M])
    refine ⟨_, rfl, ?_, kp.rf hS⟩
    rw [rowX, if_neg c_6]
  · have c_6 := bI_n c_6
    (try dsimp only [Gs_M] at c_6)
    obtain ⟨r, hr, er⟩ := hR
    have er : M0 54 17 = nI r := er
    obtain ⟨ji, hji, rfl⟩ := rngQ (x := i) c_6.1 (pl := r) (by omega) er
    obtain ⟨jw, hjw, rfl⟩ := rng (x := w) 2 (by decide) c_6.2
    refine r_aload_n dX12_row_9 rfl rfl ?_
    refine r_getR (q := 63) dX12_row_10 (ci := 12) (kf := 15) rfl (Nat.le_of_ble_eq_true rfl) (by decide) (by decide) rfl fl_X12_35 (Or.inl rfl) rfl ?_
    refine r_iconst (v := 3) dX12_row_13 (by decide) ?_
    refine r_iload_n dX12_row_14 rfl rfl ?_
    refine r_imulN (3) (ji) dX12_row_15 ?_
    refine r_iload_n dX12_row_16 rfl rfl ?_
    refine r_iaddN ((3 * ji)) (jw) dX12_row_17 ?_
    refine r_iald (j := ((3 * ji) + jw)) dX12_row_18 rfl (Nat.le_of_ble_eq_true rfl) rfl (by omega) (by decide) ?_
    refine r_goto (tgt := 24) dX12_row_19 (by decide) ?_
    refine r_iret dX12_row_24 rfl (Nat.le_refl _) ?_
    (try dsimp only [Gs_M])
    refine ⟨_, rfl, ?_, kp.rf hS⟩
    rw [rowX, if_pos c_6, cl_nI (by omega), cl_nI (by omega)]
set_option maxRecDepth 20000 in
set_option maxHeartbeats 1000000 in
theorem s_X12_alterRow (g : pG) {S : pS} (hS : sOk S) (hR : RwI S) (i w v : Int32) : MS g mX12_alterRow 3 0 0 [.ref 54, .int i, .int w, .int v] (S) (eI (fun rx S1 => rx = rowX (S.2.2.2 63) (S.2.2.2 54 17) i w ∧ kp [63] S S1 ∧ S1.2.2.2 63 = altR (S.2.2.2 63) (S.2.2.2 54 17) i w v)) := by
  obtain ⟨M0, rfl⟩ := sOk_gs hS
  refine MS.of pn_X12 (Nat.le_of_ble_eq_true rfl) ?_
  refine r_aload_n dX12_alterRow_0 rfl rfl ?_
  refine r_iload_n dX12_alterRow_1 rfl rfl ?_
  refine r_iload_n dX12_alterRow_2 rfl rfl ?_
  refine r_callV_dI (ci := 12) dX12_alterRow_3 (s_X12_isRow g (by exact ⟨rfl, rfl, rfl⟩) _ _) mf_X12_isRow mi_X12_isRow se_X12_X12_X12_isRow ml_X12_247 rfl rfl (Nat.le_of_ble_eq_true rfl) rfl (by decide) rfl (Nat.le_of_ble_eq_true rfl) ⟨(Nat.le_of_ble_eq_true rfl), (Nat.le_of_ble_eq_true rfl)⟩ ⟨(Nat.le_of_ble_eq_true rfl), (Nat.le_of_ble_eq_true rfl)⟩ ?_
  refine r_if_ne (tgt := 12) dX12_alterRow_6 (by decide) (fun c_6 => ?_) (fun c_6 => ?_)
  · have c_6 := bI_n c_6
    (try dsimp only [Gs_M] at c_6)
    obtain ⟨r, hr, er⟩ := hR
    have er : M0 54 17 = nI r := er
    obtain ⟨ji, hji, rfl⟩ := rngQ (x := i) c_6.1 (pl := r) (by omega) er
    obtain ⟨jw, hjw, rfl⟩ := rng (x := w) 2 (by decide) c_6.2
    refine r_aload_n dX12_alterRow_12 rfl rfl ?_
    refine r_getR (q := 63) dX12_alterRow_13 (ci := 12) (kf := 15) rfl (Nat.le_of_ble_eq_true rfl) (by decide) (by decide) rfl fl_X12_35 (Or.inl rfl) rfl ?_
    refine r_iconst (v := 3) dX12_alterRow_16 (by decide) ?_
    refine r_iload_n dX12_alterRow_17 rfl rfl ?_
    refine r_imulN (3) (ji) dX12_alterRow_18 ?_
    refine r_iload_n dX12_alterRow_19 rfl rfl ?_
    refine r_iaddN ((3 * ji)) (jw) dX12_alterRow_20 ?_
    refine r_iald (j := ((3 * ji) + jw)) dX12_alterRow_21 rfl (Nat.le_of_ble_eq_true rfl) rfl (by omega) (by decide) ?_
    refine r_istore dX12_alterRow_22 (by decide) ?_
    refine r_aload_n dX12_alterRow_24 rfl rfl ?_
    refine r_getR (q := 63) dX12_alterRow_25 (ci := 12) (kf := 15) rfl (Nat.le_of_ble_eq_true rfl) (by decide) (by decide) rfl fl_X12_35 (Or.inl rfl) rfl ?_
    refine r_iconst (v := 3) dX12_alterRow_28 (by decide) ?_
    refine r_iload_n dX12_alterRow_29 rfl rfl ?_
    refine r_imulN (3) (ji) dX12_alterRow_30 ?_
    refine r_iload_n dX12_alterRow_31 rfl rfl ?_
    refine r_iaddN ((3 * ji)) (jw) dX12_alterRow_32 ?_
    refine r_iload_n dX12_alterRow_33 rfl rfl ?_
    refine r_iast (j := ((3 * ji) + jw)) dX12_alterRow_34 rfl (Nat.le_of_ble_eq_true rfl) rfl (by omega) (by decide) ?_
    refine r_iload dX12_alterRow_35 rfl ?_
    refine r_iret dX12_alterRow_37 rfl (Nat.le_refl _) ?_
    (try dsimp only [Gs_M])
    refine ⟨_, rfl, ?_, (kp.rf hS).set (by decide) (by decide), ?_⟩
    · rw [rowX, if_pos c_6, cl_nI (by omega), cl_nI (by omega)]
    · rw [altR, if_pos c_6, cl_nI (by omega), cl_nI (by omega)]
      exact mSet_at
  · have c_6 := bI_0 c_6
    (try dsimp only [Gs_M] at c_6)
    refine r_bipush (v := (-9)) dX12_alterRow_9 (by decide) ?_
    refine r_iret dX12_alterRow_11 rfl (Nat.le_refl _) ?_
    (try dsimp only [Gs_M])
    refine ⟨_, rfl, ?_, kp.rf hS, ?_⟩
    · rw [rowX, if_neg c_6]
    · rw [altR, if_neg c_6]
      rfl
set_option maxRecDepth 20000 in
set_option maxHeartbeats 1000000 in
theorem s_X12_rowBy (g : pG) {S : pS} (hS : sOk S) (hI : InvR (S.2.2.2 55)) (k : Nat) (hk8 : k < 8) : MS g mX12_rowBy 7 0 0 [.ref 54, .int (nI k)] (S) (eV (fun S1 => kp [55, 59, 60, 64] (S) S1 ∧ S1.2.2.2 55 = nightR ((S).2.2.2 55) ∧ ∀ j, j < 3 → S1.2.2.2 64 j = rowV ((S).2.2.2 55) k j)) := by
  obtain ⟨M0, rfl⟩ := sOk_gs hS
  have hI : InvR (M0 55) := hI
  have how := hI.own k hk8
  refine MS.of pn_X12 (Nat.le_of_ble_eq_true rfl) ?_
  refine r_aload_n dX12_rowBy_0 rfl rfl ?_
  refine r_callV_eV (ci := 12) dX12_rowBy_1 (s_X12_bills g hS hI) mf_X12_bills mi_X12_bills se_X12_X12_X12_bills ml_X12_78 rfl rfl (Nat.le_of_ble_eq_true rfl) rfl (by decide) rfl (Nat.le_of_ble_eq_true rfl) ⟨(Nat.le_of_ble_eq_true rfl), (Nat.le_of_ble_eq_true rfl)⟩ ⟨(Nat.le_of_ble_eq_true rfl), (Nat.le_of_ble_eq_true rfl)⟩ (fun S_1 q_1 z_1 => ?_)
  obtain ⟨hk1, hc1⟩ := q_1
  obtain ⟨M1, rfl⟩ := sOk_gs hk1.1
  have e55 : M1 55 = M0 55 := hk1.2.1 55 (by decide) (by decide)
  have hI1 : InvR (M1 55) := e55 ▸ hI
  refine r_aload_n dX12_rowBy_4 rfl rfl ?_
  refine r_getR (q := 64) dX12_rowBy_5 (ci := 12) (kf := 16) rfl (Nat.le_of_ble_eq_true rfl) (by decide) (by decide) rfl fl_X12_38 (Or.inl rfl) rfl ?_
  refine r_iconst (v := 0) dX12_rowBy_8 (by decide) ?_
  refine r_aload_n dX12_rowBy_9 rfl rfl ?_
  refine r_getR (q := 60) dX12_rowBy_10 (ci := 12) (kf := 6) rfl (Nat.le_of_ble_eq_true rfl) (by decide) (by decide) rfl fl_X12_25 (Or.inl rfl) rfl ?_
  refine r_iload_n dX12_rowBy_13 rfl rfl ?_
  refine r_iald (j := k) dX12_rowBy_14 rfl (Nat.le_of_ble_eq_true rfl) rfl (by omega) (by decide) ?_
  refine r_iast (j := 0) dX12_rowBy_15 rfl (Nat.le_of_ble_eq_true rfl) rfl (by decide) (by decide) ?_
  refine r_aload_n dX12_rowBy_16 rfl rfl ?_
  refine r_getR (q := 64) dX12_rowBy_17 (ci := 12) (kf := 16) rfl (Nat.le_of_ble_eq_true rfl) (by decide) (by decide) rfl fl_X12_38 (Or.inl rfl) rfl ?_
  refine r_iconst (v := 2) dX12_rowBy_20 (by decide) ?_
  refine r_aload_n dX12_rowBy_21 rfl rfl ?_
  refine r_callV_eI (ci := 12) dX12_rowBy_22 (s_X12_night1 g (S := mSet (Gs M1) 64 0 (M1 60 k)) hk1.1 hI1) mf_X12_night1 mi_X12_night1 se_X12_X12_X12_night1 ml_X12_110 rfl rfl (Nat.le_of_ble_eq_true rfl) rfl (by decide) rfl (Nat.le_of_ble_eq_true rfl) ⟨(Nat.le_of_ble_eq_true rfl), (Nat.le_of_ble_eq_true rfl)⟩ ⟨(Nat.le_of_ble_eq_true rfl), (Nat.le_of_ble_eq_true rfl)⟩ (fun r_22 S_22 q_22 z_22 => ?_)
  obtain ⟨rfl, hk2, hv2⟩ := q_22
  obtain ⟨M2, rfl⟩ := sOk_gs hk2.1
  have hv2 : M2 55 = nightR (M1 55) := hv2
  rw [e55] at hv2
  have h64 : M2 64 = upd (M1 64) 0 (M1 60 k) := (hk2.2.1 64 (by decide) (by decide)).trans mSet_at
  have hsh : showB ((mSet (Gs M1) 64 0 (M1 60 k)).2.2.2 55) = showB (M0 55) := by rw [show (mSet (Gs M1) 64 0 (M1 60 k)).2.2.2 55 = M1 55 from mSet_ne (by decide), e55]
  refine r_iast (j := 2) dX12_rowBy_25 rfl (Nat.le_of_ble_eq_true rfl) rfl (by decide) (by decide) ?_
  refine r_aload_n dX12_rowBy_26 rfl rfl ?_
  refine r_getR (q := 64) dX12_rowBy_27 (ci := 12) (kf := 16) rfl (Nat.le_of_ble_eq_true rfl) (by decide) (by decide) rfl fl_X12_38 (Or.inl rfl) rfl ?_
  refine r_iconst (v := 1) dX12_rowBy_30 (by decide) ?_
  refine r_aload_n dX12_rowBy_31 rfl rfl ?_
  refine r_iload_n dX12_rowBy_32 rfl rfl ?_
  refine r_iconst (v := 3) dX12_rowBy_33 (by decide) ?_
  refine r_aload_n dX12_rowBy_34 rfl rfl ?_
  refine r_iload_n dX12_rowBy_35 rfl rfl ?_
  refine r_iconst (v := 1) dX12_rowBy_36 (by decide) ?_
  refine r_callV_dI (ci := 12) dX12_rowBy_37 (s_X12_get g (by exact ⟨rfl, rfl, rfl⟩) (k) (1) (by omega) (by omega)) mf_X12_get mi_X12_get se_X12_X12_X12_get ml_X12_67 rfl rfl (Nat.le_of_ble_eq_true rfl) rfl (by decide) rfl (Nat.le_of_ble_eq_true rfl) ⟨(Nat.le_of_ble_eq_true rfl), (Nat.le_of_ble_eq_true rfl)⟩ ⟨(Nat.le_of_ble_eq_true rfl), (Nat.le_of_ble_eq_true rfl)⟩ ?_
  rw [show (mSet (Gs M2) 64 2 (showB ((mSet (Gs M1) 64 0 (M1 60 k)).2.2.2 55))).2.2.2 55 (16 + 11 * k + 1) = nI (owR (M0 55) k) by rw [show (mSet (Gs M2) 64 2 (showB ((mSet (Gs M1) 64 0 (M1 60 k)).2.2.2 55))).2.2.2 55 = M2 55 from mSet_ne (by decide), hv2, nightR_own]; exact owR_v hI hk8]
  refine r_iaddN (3) (owR (M0 55) k) dX12_rowBy_40 ?_
  refine r_callV_dI (ci := 12) dX12_rowBy_41 (s_X12_get g (by exact ⟨rfl, rfl, rfl⟩) (k) ((3 + owR (M0 55) k)) (by omega) (by omega)) mf_X12_get mi_X12_get se_X12_X12_X12_get ml_X12_67 rfl rfl (Nat.le_of_ble_eq_true rfl) rfl (by decide) rfl (Nat.le_of_ble_eq_true rfl) ⟨(Nat.le_of_ble_eq_true rfl), (Nat.le_of_ble_eq_true rfl)⟩ ⟨(Nat.le_of_ble_eq_true rfl), (Nat.le_of_ble_eq_true rfl)⟩ ?_
  refine r_iast (j := 1) dX12_rowBy_44 rfl (Nat.le_of_ble_eq_true rfl) rfl (by decide) (by decide) ?_
  refine r_vret dX12_rowBy_45 rfl (Nat.le_refl _) ?_
  (try dsimp only [Gs_M])
  refine ⟨rfl, (((((hk1.mono (by decide)).set (by decide) (by decide)).tr (hk2.mono (by decide))).set (by decide) (by decide)).set (by decide) (by decide)), ?_, ?_⟩
  · rw [mSet_ne (by decide), mSet_ne (by decide)]
    exact hv2
  · intro j hj
    rw [mSet_at, mSet_at]
    dsimp only [Gs_M]
    rw [h64]
    rcases (by omega : j = 0 ∨ j = 1 ∨ j = 2) with rfl | rfl | rfl
    · rw [pk_un (by decide), pk_un (by decide), pk_us]
      exact (hc1 k hk8).2
    · rw [pk_us, mSet_ne (by decide)]
      show M2 55 _ = _
      rw [hv2]
      rfl
    · rw [pk_un (by decide), pk_us]
      exact hsh
