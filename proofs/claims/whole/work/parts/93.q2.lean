set_option maxRecDepth 20000 in
set_option maxHeartbeats 1000000 in
theorem s_X10_init (g : pG) {l : List (Nat × Nat × Nat)} {M : Nat → Nat → Int32} : MS g mX10_init 1 0 0 [.ref 28, .ref 1, .ref 10] (Nw 29 l M) (dV (Nw 29 ((28, 1, 10) :: (28, 0, 1) :: l) M)) := by
  refine MS.of pn_X10 (Nat.le_of_ble_eq_true rfl) ?_
  refine r_aload_n dX10_init_0 rfl rfl ?_
  refine r_objInit dX10_init_1 ml_X10_3 mi_Obj cd_Obj (Nat.le_of_ble_eq_true rfl) (Nat.le_of_ble_eq_true rfl) (Nat.le_of_ble_eq_true rfl) ?_
  refine r_aload_n dX10_init_4 rfl rfl ?_
  refine r_aload_n dX10_init_5 rfl rfl ?_
  refine n_putR (q := 1) (i := 28) dX10_init_6 (ci := 10) (kf := 0) rfl (nw_lt (by omega)) (by decide) (by decide) rfl fl_X10_9 rfl rfl rfl rfl ?_
  refine r_aload_n dX10_init_9 rfl rfl ?_
  refine r_aload_n dX10_init_10 rfl rfl ?_
  refine n_putR (q := 10) (i := 28) dX10_init_11 (ci := 10) (kf := 1) rfl (nw_lt (by omega)) (by decide) (by decide) rfl fl_X10_15 rfl rfl rfl rfl ?_
  refine r_vret dX10_init_14 rfl (Nat.le_refl _) ?_
  (try dsimp only [Gs_M])
  exact ⟨rfl, rfl⟩
set_option maxRecDepth 20000 in
set_option maxHeartbeats 1000000 in
theorem s_X8_init (g : pG) {l : List (Nat × Nat × Nat)} {M : Nat → Nat → Int32} (hR : ∀ m, 29 ≤ m → rSL l m = fun _ => none) (hM : ∀ m, 29 ≤ m → M m = fun _ => 0) : MS g mX8_init 1 1 200 [.ref 29] (Nw 30 l M) (dV (Nw 31 ((29, 0, 30) :: l) M)) := by
  refine MS.of pn_X8 (Nat.le_of_ble_eq_true rfl) ?_
  refine r_aload_n dX8_init_0 rfl rfl ?_
  refine r_objInit dX8_init_1 ml_X8_3 mi_Obj cd_Obj (Nat.le_of_ble_eq_true rfl) (Nat.le_of_ble_eq_true rfl) (Nat.le_of_ble_eq_true rfl) ?_
  refine r_aload_n dX8_init_4 rfl rfl ?_
  refine r_sipush (v := 200) dX8_init_5 (by decide) ?_
  refine n_newA (N := 200) (t := 1) dX8_init_8 rfl (by decide) rfl ac_byte rfl ra_byte rfl (by decide) (by decide) (by decide) (Nat.le_of_ble_eq_true rfl) (Nat.le_of_ble_eq_true rfl) rfl (by repeat' first | exact hR _ (by omega) | refine rSL_n (by omega) ?_) (by repeat' first | exact hM _ (by omega) | refine mU_n (by omega) ?_) ?_
  refine n_putR (q := 30) (i := 29) dX8_init_10 (ci := 8) (kf := 0) rfl (nw_lt (by omega)) (by decide) (by decide) rfl fl_X8_11 rfl rfl rfl rfl ?_
  refine r_vret dX8_init_13 rfl (Nat.le_refl _) ?_
  (try dsimp only [Gs_M])
  exact ⟨rfl, rfl⟩
set_option maxRecDepth 20000 in
set_option maxHeartbeats 1000000 in
theorem s_X9_init (g : pG) {l : List (Nat × Nat × Nat)} {M : Nat → Nat → Int32} (hR : ∀ m, 45 ≤ m → rSL l m = fun _ => none) (hM : ∀ m, 45 ≤ m → M m = fun _ => 0) : MS g mX9_init 1 1 30 [.ref 45] (Nw 46 l M) (dV (Nw 47 ((45, 0, 46) :: l) M)) := by
  refine MS.of pn_X9 (Nat.le_of_ble_eq_true rfl) ?_
  refine r_aload_n dX9_init_0 rfl rfl ?_
  refine r_objInit dX9_init_1 ml_X9_1 mi_Obj cd_Obj (Nat.le_of_ble_eq_true rfl) (Nat.le_of_ble_eq_true rfl) (Nat.le_of_ble_eq_true rfl) ?_
  refine r_aload_n dX9_init_4 rfl rfl ?_
  refine r_bipush (v := 30) dX9_init_5 (by decide) ?_
  refine n_newA (N := 30) (t := 0) dX9_init_7 rfl (by decide) rfl ac_int rfl ra_int rfl (by decide) (by decide) (by decide) (Nat.le_of_ble_eq_true rfl) (Nat.le_of_ble_eq_true rfl) rfl (by repeat' first | exact hR _ (by omega) | refine rSL_n (by omega) ?_) (by repeat' first | exact hM _ (by omega) | refine mU_n (by omega) ?_) ?_
  refine n_putR (q := 46) (i := 45) dX9_init_9 (ci := 9) (kf := 0) rfl (nw_lt (by omega)) (by decide) (by decide) rfl fl_X9_9 rfl rfl rfl rfl ?_
  refine r_vret dX9_init_12 rfl (Nat.le_refl _) ?_
  (try dsimp only [Gs_M])
  exact ⟨rfl, rfl⟩
set_option maxRecDepth 20000 in
set_option maxHeartbeats 1000000 in
theorem s_X6_init (g : pG) {p : Nat} (hp : p = 34 ∨ p = 36 ∨ p = 38 ∨ p = 40) {l : List (Nat × Nat × Nat)} {M : Nat → Nat → Int32} (hR : ∀ m, p ≤ m → rSL l m = fun _ => none) (hM : ∀ m, p ≤ m → M m = fun _ => 0) : MS g mX6_init 1 1 40 [.ref p] (Nw (p + 1) l M) (dV (Nw (p + 2) ((p, 2, p + 1) :: l) (mU M p 0 (-1)))) := by
  refine MS.of pn_X6 (Nat.le_of_ble_eq_true rfl) ?_
  refine r_aload_n dX6_init_0 rfl rfl ?_
  refine r_objInit dX6_init_1 ml_X6_3 mi_Obj cd_Obj (Nat.le_of_ble_eq_true rfl) (Nat.le_of_ble_eq_true rfl) (Nat.le_of_ble_eq_true rfl) ?_
  refine r_aload_n dX6_init_4 rfl rfl ?_
  refine r_iconst (v := (-1)) dX6_init_5 (by decide) ?_
  refine r_putI dX6_init_6 (ci := 6) (kf := 0) (by rcases hp with rfl | rfl | rfl | rfl <;> rfl) (nw_lt (by omega)) (by decide) (by decide) rfl fl_X6_9 (Or.inl rfl) rfl rfl rfl ?_
  rw [nw_ms]
  refine r_aload_n dX6_init_9 rfl rfl ?_
  refine r_bipush (v := 40) dX6_init_10 (by decide) ?_
  refine n_newA (N := 40) (t := 0) dX6_init_12 rfl (by decide) rfl ac_int rfl ra_int rfl (by decide) (by decide) (by omega) (Nat.le_of_ble_eq_true rfl) (Nat.le_of_ble_eq_true rfl) (by rcases hp with rfl | rfl | rfl | rfl <;> rfl) (by repeat' first | exact hR _ (by omega) | refine rSL_n (by omega) ?_) (by repeat' first | exact hM _ (by omega) | refine mU_n (by omega) ?_) ?_
  refine n_putR (q := (p + 1)) (i := p) dX6_init_14 (ci := 6) (kf := 2) (by rcases hp with rfl | rfl | rfl | rfl <;> rfl) (nw_lt (by omega)) (by decide) (by decide) rfl fl_X6_15 rfl rfl rfl rfl ?_
  refine r_vret dX6_init_17 rfl (Nat.le_refl _) ?_
  (try dsimp only [Gs_M])
  exact ⟨rfl, rfl⟩
set_option maxRecDepth 20000 in
set_option maxHeartbeats 1000000 in
theorem s_X3_init_48 (g : pG) {l : List (Nat × Nat × Nat)} {M : Nat → Nat → Int32} : MS g mX3_init 1 0 0 [.ref 48, .ref 45] (Nw 49 l M) (dV (Nw 49 ((48, 0, 45) :: l) M)) := by
  refine MS.of pn_X3 (Nat.le_of_ble_eq_true rfl) ?_
  refine r_aload_n dX3_init_0 rfl rfl ?_
  refine r_objInit dX3_init_1 ml_X3_1 mi_Obj cd_Obj (Nat.le_of_ble_eq_true rfl) (Nat.le_of_ble_eq_true rfl) (Nat.le_of_ble_eq_true rfl) ?_
  refine r_aload_n dX3_init_4 rfl rfl ?_
  refine r_aload_n dX3_init_5 rfl rfl ?_
  refine n_putR (q := 45) (i := 48) dX3_init_6 (ci := 3) (kf := 0) rfl (nw_lt (by omega)) (by decide) (by decide) rfl fl_X3_7 rfl rfl rfl rfl ?_
  refine r_vret dX3_init_9 rfl (Nat.le_refl _) ?_
  (try dsimp only [Gs_M])
  exact ⟨rfl, rfl⟩
set_option maxRecDepth 20000 in
set_option maxHeartbeats 1000000 in
theorem s_X3_init_49 (g : pG) {l : List (Nat × Nat × Nat)} {M : Nat → Nat → Int32} : MS g mX3_init 1 0 0 [.ref 49, .ref 45] (Nw 50 l M) (dV (Nw 50 ((49, 0, 45) :: l) M)) := by
  refine MS.of pn_X3 (Nat.le_of_ble_eq_true rfl) ?_
  refine r_aload_n dX3_init_0 rfl rfl ?_
  refine r_objInit dX3_init_1 ml_X3_1 mi_Obj cd_Obj (Nat.le_of_ble_eq_true rfl) (Nat.le_of_ble_eq_true rfl) (Nat.le_of_ble_eq_true rfl) ?_
  refine r_aload_n dX3_init_4 rfl rfl ?_
  refine r_aload_n dX3_init_5 rfl rfl ?_
  refine n_putR (q := 45) (i := 49) dX3_init_6 (ci := 1) (kf := 0) rfl (nw_lt (by omega)) (by decide) (by decide) rfl fl_X3_7 rfl rfl rfl rfl ?_
  refine r_vret dX3_init_9 rfl (Nat.le_refl _) ?_
  (try dsimp only [Gs_M])
  exact ⟨rfl, rfl⟩
set_option maxRecDepth 20000 in
set_option maxHeartbeats 1000000 in
theorem s_X3_init_50 (g : pG) {l : List (Nat × Nat × Nat)} {M : Nat → Nat → Int32} : MS g mX3_init 1 0 0 [.ref 50, .ref 45] (Nw 51 l M) (dV (Nw 51 ((50, 0, 45) :: l) M)) := by
  refine MS.of pn_X3 (Nat.le_of_ble_eq_true rfl) ?_
  refine r_aload_n dX3_init_0 rfl rfl ?_
  refine r_objInit dX3_init_1 ml_X3_1 mi_Obj cd_Obj (Nat.le_of_ble_eq_true rfl) (Nat.le_of_ble_eq_true rfl) (Nat.le_of_ble_eq_true rfl) ?_
  refine r_aload_n dX3_init_4 rfl rfl ?_
  refine r_aload_n dX3_init_5 rfl rfl ?_
  refine n_putR (q := 45) (i := 50) dX3_init_6 (ci := 2) (kf := 0) rfl (nw_lt (by omega)) (by decide) (by decide) rfl fl_X3_7 rfl rfl rfl rfl ?_
  refine r_vret dX3_init_9 rfl (Nat.le_refl _) ?_
  (try dsimp only [Gs_M])
  exact ⟨rfl, rfl⟩
set_option maxRecDepth 20000 in
set_option maxHeartbeats 1000000 in
theorem s_X3_init_51 (g : pG) {l : List (Nat × Nat × Nat)} {M : Nat → Nat → Int32} : MS g mX3_init 1 0 0 [.ref 51, .ref 45] (Nw 52 l M) (dV (Nw 52 ((51, 0, 45) :: l) M)) := by
  refine MS.of pn_X3 (Nat.le_of_ble_eq_true rfl) ?_
  refine r_aload_n dX3_init_0 rfl rfl ?_
  refine r_objInit dX3_init_1 ml_X3_1 mi_Obj cd_Obj (Nat.le_of_ble_eq_true rfl) (Nat.le_of_ble_eq_true rfl) (Nat.le_of_ble_eq_true rfl) ?_
  refine r_aload_n dX3_init_4 rfl rfl ?_
  refine r_aload_n dX3_init_5 rfl rfl ?_
  refine n_putR (q := 45) (i := 51) dX3_init_6 (ci := 5) (kf := 0) rfl (nw_lt (by omega)) (by decide) (by decide) rfl fl_X3_7 rfl rfl rfl rfl ?_
  refine r_vret dX3_init_9 rfl (Nat.le_refl _) ?_
  (try dsimp only [Gs_M])
  exact ⟨rfl, rfl⟩
set_option maxRecDepth 20000 in
set_option maxHeartbeats 1000000 in
theorem s_X3_init_52 (g : pG) {l : List (Nat × Nat × Nat)} {M : Nat → Nat → Int32} : MS g mX3_init 1 0 0 [.ref 52, .ref 45] (Nw 53 l M) (dV (Nw 53 ((52, 0, 45) :: l) M)) := by
  refine MS.of pn_X3 (Nat.le_of_ble_eq_true rfl) ?_
  refine r_aload_n dX3_init_0 rfl rfl ?_
  refine r_objInit dX3_init_1 ml_X3_1 mi_Obj cd_Obj (Nat.le_of_ble_eq_true rfl) (Nat.le_of_ble_eq_true rfl) (Nat.le_of_ble_eq_true rfl) ?_
  refine r_aload_n dX3_init_4 rfl rfl ?_
  refine r_aload_n dX3_init_5 rfl rfl ?_
  refine n_putR (q := 45) (i := 52) dX3_init_6 (ci := 4) (kf := 0) rfl (nw_lt (by omega)) (by decide) (by decide) rfl fl_X3_7 rfl rfl rfl rfl ?_
  refine r_vret dX3_init_9 rfl (Nat.le_refl _) ?_
  (try dsimp only [Gs_M])
  exact ⟨rfl, rfl⟩
set_option maxRecDepth 20000 in
set_option maxHeartbeats 1000000 in
theorem s_X3_init_53 (g : pG) {l : List (Nat × Nat × Nat)} {M : Nat → Nat → Int32} : MS g mX3_init 1 0 0 [.ref 53, .ref 45] (Nw 54 l M) (dV (Nw 54 ((53, 0, 45) :: l) M)) := by
  refine MS.of pn_X3 (Nat.le_of_ble_eq_true rfl) ?_
  refine r_aload_n dX3_init_0 rfl rfl ?_
  refine r_objInit dX3_init_1 ml_X3_1 mi_Obj cd_Obj (Nat.le_of_ble_eq_true rfl) (Nat.le_of_ble_eq_true rfl) (Nat.le_of_ble_eq_true rfl) ?_
  refine r_aload_n dX3_init_4 rfl rfl ?_
  refine r_aload_n dX3_init_5 rfl rfl ?_
  refine n_putR (q := 45) (i := 53) dX3_init_6 (ci := 7) (kf := 0) rfl (nw_lt (by omega)) (by decide) (by decide) rfl fl_X3_7 rfl rfl rfl rfl ?_
  refine r_vret dX3_init_9 rfl (Nat.le_refl _) ?_
  (try dsimp only [Gs_M])
  exact ⟨rfl, rfl⟩
set_option maxRecDepth 20000 in
set_option maxHeartbeats 1000000 in
theorem s_X1_init_51 (g : pG) {l : List (Nat × Nat × Nat)} {M : Nat → Nat → Int32} : MS g mX1_init 2 0 0 [.ref 51, .ref 45] (Nw 52 l M) (dV (Nw 52 ((51, 0, 45) :: l) M)) := by
  refine MS.of pn_X1 (Nat.le_of_ble_eq_true rfl) ?_
  refine r_aload_n dX1_init_0 rfl rfl ?_
  refine r_aload_n dX1_init_1 rfl rfl ?_
  refine r_callI_dV dX1_init_2 (s_X3_init_51 g) mf_X3_init mi_X3_init ml_X1_1 rfl rfl rfl rfl (Nat.le_of_ble_eq_true rfl) ⟨(Nat.le_of_ble_eq_true rfl), (Nat.le_of_ble_eq_true rfl)⟩ ⟨(Nat.le_of_ble_eq_true rfl), (Nat.le_of_ble_eq_true rfl)⟩ ?_
  refine r_vret dX1_init_5 rfl (Nat.le_refl _) ?_
  (try dsimp only [Gs_M])
  exact ⟨rfl, rfl⟩
set_option maxRecDepth 20000 in
set_option maxHeartbeats 1000000 in
theorem s_X2_init_52 (g : pG) {l : List (Nat × Nat × Nat)} {M : Nat → Nat → Int32} : MS g mX2_init 2 0 0 [.ref 52, .ref 45] (Nw 53 l M) (dV (Nw 53 ((52, 0, 45) :: l) M)) := by
  refine MS.of pn_X2 (Nat.le_of_ble_eq_true rfl) ?_
  refine r_aload_n dX2_init_0 rfl rfl ?_
  refine r_aload_n dX2_init_1 rfl rfl ?_
  refine r_callI_dV dX2_init_2 (s_X3_init_52 g) mf_X3_init mi_X3_init ml_X2_1 rfl rfl rfl rfl (Nat.le_of_ble_eq_true rfl) ⟨(Nat.le_of_ble_eq_true rfl), (Nat.le_of_ble_eq_true rfl)⟩ ⟨(Nat.le_of_ble_eq_true rfl), (Nat.le_of_ble_eq_true rfl)⟩ ?_
  refine r_vret dX2_init_5 rfl (Nat.le_refl _) ?_
  (try dsimp only [Gs_M])
  exact ⟨rfl, rfl⟩
set_option maxRecDepth 20000 in
set_option maxHeartbeats 1000000 in
theorem s_X1_init (g : pG) {l : List (Nat × Nat × Nat)} {M : Nat → Nat → Int32} : MS g mX1_init 2 0 0 [.ref 49, .ref 45] (Nw 50 l M) (dV (Nw 50 ((49, 0, 45) :: l) M)) := by
  refine MS.of pn_X1 (Nat.le_of_ble_eq_true rfl) ?_
  refine r_aload_n dX1_init_0 rfl rfl ?_
  refine r_aload_n dX1_init_1 rfl rfl ?_
  refine r_callI_dV dX1_init_2 (s_X3_init_49 g) mf_X3_init mi_X3_init ml_X1_1 rfl rfl rfl rfl (Nat.le_of_ble_eq_true rfl) ⟨(Nat.le_of_ble_eq_true rfl), (Nat.le_of_ble_eq_true rfl)⟩ ⟨(Nat.le_of_ble_eq_true rfl), (Nat.le_of_ble_eq_true rfl)⟩ ?_
  refine r_vret dX1_init_5 rfl (Nat.le_refl _) ?_
  (try dsimp only [Gs_M])
  exact ⟨rfl, rfl⟩
set_option maxRecDepth 20000 in
set_option maxHeartbeats 1000000 in
theorem s_X2_init (g : pG) {l : List (Nat × Nat × Nat)} {M : Nat → Nat → Int32} : MS g mX2_init 2 0 0 [.ref 50, .ref 45] (Nw 51 l M) (dV (Nw 51 ((50, 0, 45) :: l) M)) := by
  refine MS.of pn_X2 (Nat.le_of_ble_eq_true rfl) ?_
  refine r_aload_n dX2_init_0 rfl rfl ?_
  refine r_aload_n dX2_init_1 rfl rfl ?_
  refine r_callI_dV dX2_init_2 (s_X3_init_50 g) mf_X3_init mi_X3_init ml_X2_1 rfl rfl rfl rfl (Nat.le_of_ble_eq_true rfl) ⟨(Nat.le_of_ble_eq_true rfl), (Nat.le_of_ble_eq_true rfl)⟩ ⟨(Nat.le_of_ble_eq_true rfl), (Nat.le_of_ble_eq_true rfl)⟩ ?_
  refine r_vret dX2_init_5 rfl (Nat.le_refl _) ?_
  (try dsimp only [Gs_M])
  exact ⟨rfl, rfl⟩
set_option maxRecDepth 20000 in
set_option maxHeartbeats 1000000 in
theorem s_X5_init (g : pG) {l : List (Nat × Nat × Nat)} {M : Nat → Nat → Int32} : MS g mX5_init 3 0 0 [.ref 51, .ref 45] (Nw 52 l M) (dV (Nw 52 ((51, 0, 45) :: l) M)) := by
  refine MS.of pn_X5 (Nat.le_of_ble_eq_true rfl) ?_
  refine r_aload_n dX5_init_0 rfl rfl ?_
  refine r_aload_n dX5_init_1 rfl rfl ?_
  refine r_callI_dV dX5_init_2 (s_X1_init_51 g) mf_X1_init mi_X1_init ml_X5_1 rfl rfl rfl rfl (Nat.le_of_ble_eq_true rfl) ⟨(Nat.le_of_ble_eq_true rfl), (Nat.le_of_ble_eq_true rfl)⟩ ⟨(Nat.le_of_ble_eq_true rfl), (Nat.le_of_ble_eq_true rfl)⟩ ?_
  refine r_vret dX5_init_5 rfl (Nat.le_refl _) ?_
  (try dsimp only [Gs_M])
  exact ⟨rfl, rfl⟩
set_option maxRecDepth 20000 in
set_option maxHeartbeats 1000000 in
theorem s_X4_init (g : pG) {l : List (Nat × Nat × Nat)} {M : Nat → Nat → Int32} : MS g mX4_init 3 0 0 [.ref 52, .ref 45] (Nw 53 l M) (dV (Nw 53 ((52, 0, 45) :: l) M)) := by
  refine MS.of pn_X4 (Nat.le_of_ble_eq_true rfl) ?_
  refine r_aload_n dX4_init_0 rfl rfl ?_
  refine r_aload_n dX4_init_1 rfl rfl ?_
  refine r_callI_dV dX4_init_2 (s_X2_init_52 g) mf_X2_init mi_X2_init ml_X4_1 rfl rfl rfl rfl (Nat.le_of_ble_eq_true rfl) ⟨(Nat.le_of_ble_eq_true rfl), (Nat.le_of_ble_eq_true rfl)⟩ ⟨(Nat.le_of_ble_eq_true rfl), (Nat.le_of_ble_eq_true rfl)⟩ ?_
  refine r_vret dX4_init_5 rfl (Nat.le_refl _) ?_
  (try dsimp only [Gs_M])
  exact ⟨rfl, rfl⟩
set_option maxRecDepth 20000 in
set_option maxHeartbeats 1000000 in
theorem s_X7_init (g : pG) {l : List (Nat × Nat × Nat)} {M : Nat → Nat → Int32} : MS g mX7_init 2 0 0 [.ref 53, .ref 45] (Nw 54 l M) (dV (Nw 54 ((53, 0, 45) :: l) M)) := by
  refine MS.of pn_X7 (Nat.le_of_ble_eq_true rfl) ?_
  refine r_aload_n dX7_init_0 rfl rfl ?_
  refine r_aload_n dX7_init_1 rfl rfl ?_
  refine r_callI_dV dX7_init_2 (s_X3_init_53 g) mf_X3_init mi_X3_init ml_X7_1 rfl rfl rfl rfl (Nat.le_of_ble_eq_true rfl) ⟨(Nat.le_of_ble_eq_true rfl), (Nat.le_of_ble_eq_true rfl)⟩ ⟨(Nat.le_of_ble_eq_true rfl), (Nat.le_of_ble_eq_true rfl)⟩ ?_
  refine r_vret dX7_init_5 rfl (Nat.le_refl _) ?_
  (try dsimp only [Gs_M])
  exact ⟨rfl, rfl⟩
