set_option maxRecDepth 20000 in
set_option maxHeartbeats 1000000 in
theorem s_bows_0_2 (g : pG) {M : Nat → Nat → Int32} {A : aT} (hA : A.2.1 ≤ 30) (ko : Nat) (hko : ko < 8) (eo : M 54 25 = nI ko) (x : Int32) : MS g mX12_bowsAs 2 0 0 [.ref 54, .int 0, .int x] (Gs (acS M A)) (dI (bowK ko 0 x A).1 (Gs (acS M (bowK ko 0 x A).2))) := by
  refine MS.of pn_X12 (Nat.le_of_ble_eq_true rfl) ?_
  refine r_iload_n dX12_bowsAs_0 rfl rfl ?_
  refine r_tableOut (tgt := 72) dX12_bowsAs_1 (out_of2 (lo := 2) (n := 4) (by decide) (fun j hl hj => ?_)) (by decide) ?_
  · rcases (by omega : j = 2 ∨ j = 3 ∨ j = 4) with rfl | rfl | rfl
    · decide
    · decide
    · decide
  refine r_aload_n dX12_bowsAs_72 rfl rfl ?_
  refine r_bipush (v := 10) dX12_bowsAs_73 (by decide) ?_
  refine r_callV_dV (ci := 12) dX12_bowsAs_75 (s_X12_starts g (A := A) hA 10) mf_X12_starts mi_X12_starts se_X12_X12_X12_starts ml_X12_259 rfl rfl (Nat.le_of_ble_eq_true rfl) rfl (by decide) rfl (Nat.le_of_ble_eq_true rfl) ⟨(Nat.le_of_ble_eq_true rfl), (Nat.le_of_ble_eq_true rfl)⟩ ⟨(Nat.le_of_ble_eq_true rfl), (Nat.le_of_ble_eq_true rfl)⟩ ?_
  refine r_iload_n dX12_bowsAs_78 rfl rfl ?_
  refine r_bipush (v := 6) dX12_bowsAs_79 (by decide) ?_
  refine r_imul dX12_bowsAs_81 ?_
  refine r_aload_n dX12_bowsAs_82 rfl rfl ?_
  refine r_getI dX12_bowsAs_83 (ci := 12) (kf := 25) rfl (Nat.le_of_ble_eq_true rfl) (by decide) (by decide) rfl fl_X12_265 (Or.inl rfl) ?_
  rw [acS_own, eo]
  refine r_isub dX12_bowsAs_86 ?_
  refine r_iret dX12_bowsAs_87 rfl (Nat.le_refl _) ?_
  (try dsimp only [Gs_M])
  exact ⟨rfl, rfl⟩
set_option maxRecDepth 20000 in
set_option maxHeartbeats 1000000 in
theorem s_bows_2_3 (g : pG) {M : Nat → Nat → Int32} {A : aT} (hA : A.2.1 ≤ 30) (ko : Nat) (hko : ko < 8) (eo : M 54 25 = nI ko) (x : Int32) : MS g mX12_bowsAs 3 0 0 [.ref 54, .int 2, .int x] (Gs (acS M A)) (dI (bowK ko 2 x A).1 (Gs (acS M (bowK ko 2 x A).2))) := by
  refine MS.of pn_X12 (Nat.le_of_ble_eq_true rfl) ?_
  refine r_iload_n dX12_bowsAs_0 rfl rfl ?_
  refine r_tableAt (tgt := 28) 2 dX12_bowsAs_1 rfl (by decide) (by decide) rfl (by decide) ?_
  refine r_aload_n dX12_bowsAs_28 rfl rfl ?_
  refine r_bipush (v := 30) dX12_bowsAs_29 (by decide) ?_
  refine r_callV_dV (ci := 12) dX12_bowsAs_31 (s_X12_starts g (A := A) hA 30) mf_X12_starts mi_X12_starts se_X12_X12_X12_starts ml_X12_259 rfl rfl (Nat.le_of_ble_eq_true rfl) rfl (by decide) rfl (Nat.le_of_ble_eq_true rfl) ⟨(Nat.le_of_ble_eq_true rfl), (Nat.le_of_ble_eq_true rfl)⟩ ⟨(Nat.le_of_ble_eq_true rfl), (Nat.le_of_ble_eq_true rfl)⟩ ?_
  refine r_aload_n dX12_bowsAs_34 rfl rfl ?_
  refine r_iconst (v := 0) dX12_bowsAs_35 (by decide) ?_
  refine r_iload_n dX12_bowsAs_36 rfl rfl ?_
  refine r_callV_dI (ci := 12) dX12_bowsAs_37 (s_bows_0_2 g (stA_le hA) ko hko eo _) mf_X12_bowsAs mi_X12_bowsAs se_X12_X12_X12_bowsAs ml_X12_262 rfl rfl (Nat.le_of_ble_eq_true rfl) rfl (by decide) rfl (Nat.le_of_ble_eq_true rfl) ⟨(Nat.le_of_ble_eq_true rfl), (Nat.le_of_ble_eq_true rfl)⟩ ⟨(Nat.le_of_ble_eq_true rfl), (Nat.le_of_ble_eq_true rfl)⟩ ?_
  refine r_ineg dX12_bowsAs_40 ?_
  refine r_iret dX12_bowsAs_41 rfl (Nat.le_refl _) ?_
  (try dsimp only [Gs_M])
  exact ⟨rfl, rfl⟩
set_option maxRecDepth 20000 in
set_option maxHeartbeats 1000000 in
theorem s_bows_0_4 (g : pG) {M : Nat → Nat → Int32} {A : aT} (hA : A.2.1 ≤ 30) (ko : Nat) (hko : ko < 8) (eo : M 54 25 = nI ko) (x : Int32) : MS g mX12_bowsAs 4 0 0 [.ref 54, .int 0, .int x] (Gs (acS M A)) (dI (bowK ko 0 x A).1 (Gs (acS M (bowK ko 0 x A).2))) := by
  refine MS.of pn_X12 (Nat.le_of_ble_eq_true rfl) ?_
  refine r_iload_n dX12_bowsAs_0 rfl rfl ?_
  refine r_tableOut (tgt := 72) dX12_bowsAs_1 (out_of2 (lo := 2) (n := 4) (by decide) (fun j hl hj => ?_)) (by decide) ?_
  · rcases (by omega : j = 2 ∨ j = 3 ∨ j = 4) with rfl | rfl | rfl
    · decide
    · decide
    · decide
  refine r_aload_n dX12_bowsAs_72 rfl rfl ?_
  refine r_bipush (v := 10) dX12_bowsAs_73 (by decide) ?_
  refine r_callV_dV (ci := 12) dX12_bowsAs_75 (s_X12_starts g (A := A) hA 10) mf_X12_starts mi_X12_starts se_X12_X12_X12_starts ml_X12_259 rfl rfl (Nat.le_of_ble_eq_true rfl) rfl (by decide) rfl (Nat.le_of_ble_eq_true rfl) ⟨(Nat.le_of_ble_eq_true rfl), (Nat.le_of_ble_eq_true rfl)⟩ ⟨(Nat.le_of_ble_eq_true rfl), (Nat.le_of_ble_eq_true rfl)⟩ ?_
  refine r_iload_n dX12_bowsAs_78 rfl rfl ?_
  refine r_bipush (v := 6) dX12_bowsAs_79 (by decide) ?_
  refine r_imul dX12_bowsAs_81 ?_
  refine r_aload_n dX12_bowsAs_82 rfl rfl ?_
  refine r_getI dX12_bowsAs_83 (ci := 12) (kf := 25) rfl (Nat.le_of_ble_eq_true rfl) (by decide) (by decide) rfl fl_X12_265 (Or.inl rfl) ?_
  rw [acS_own, eo]
  refine r_isub dX12_bowsAs_86 ?_
  refine r_iret dX12_bowsAs_87 rfl (Nat.le_refl _) ?_
  (try dsimp only [Gs_M])
  exact ⟨rfl, rfl⟩
set_option maxRecDepth 20000 in
set_option maxHeartbeats 1000000 in
theorem s_bows_1_4 (g : pG) {M : Nat → Nat → Int32} {A : aT} (hA : A.2.1 ≤ 30) (ko : Nat) (hko : ko < 8) (eo : M 54 25 = nI ko) (x : Int32) : MS g mX12_bowsAs 4 0 0 [.ref 54, .int 1, .int x] (Gs (acS M A)) (dI (bowK ko 1 x A).1 (Gs (acS M (bowK ko 1 x A).2))) := by
  refine MS.of pn_X12 (Nat.le_of_ble_eq_true rfl) ?_
  refine r_iload_n dX12_bowsAs_0 rfl rfl ?_
  refine r_tableOut (tgt := 72) dX12_bowsAs_1 (out_of2 (lo := 2) (n := 4) (by decide) (fun j hl hj => ?_)) (by decide) ?_
  · rcases (by omega : j = 2 ∨ j = 3 ∨ j = 4) with rfl | rfl | rfl
    · decide
    · decide
    · decide
  refine r_aload_n dX12_bowsAs_72 rfl rfl ?_
  refine r_bipush (v := 10) dX12_bowsAs_73 (by decide) ?_
  refine r_callV_dV (ci := 12) dX12_bowsAs_75 (s_X12_starts g (A := A) hA 10) mf_X12_starts mi_X12_starts se_X12_X12_X12_starts ml_X12_259 rfl rfl (Nat.le_of_ble_eq_true rfl) rfl (by decide) rfl (Nat.le_of_ble_eq_true rfl) ⟨(Nat.le_of_ble_eq_true rfl), (Nat.le_of_ble_eq_true rfl)⟩ ⟨(Nat.le_of_ble_eq_true rfl), (Nat.le_of_ble_eq_true rfl)⟩ ?_
  refine r_iload_n dX12_bowsAs_78 rfl rfl ?_
  refine r_bipush (v := 6) dX12_bowsAs_79 (by decide) ?_
  refine r_imul dX12_bowsAs_81 ?_
  refine r_aload_n dX12_bowsAs_82 rfl rfl ?_
  refine r_getI dX12_bowsAs_83 (ci := 12) (kf := 25) rfl (Nat.le_of_ble_eq_true rfl) (by decide) (by decide) rfl fl_X12_265 (Or.inl rfl) ?_
  rw [acS_own, eo]
  refine r_isub dX12_bowsAs_86 ?_
  refine r_iret dX12_bowsAs_87 rfl (Nat.le_refl _) ?_
  (try dsimp only [Gs_M])
  exact ⟨rfl, rfl⟩
set_option maxRecDepth 20000 in
set_option maxHeartbeats 1000000 in
theorem s_bows_2_4 (g : pG) {M : Nat → Nat → Int32} {A : aT} (hA : A.2.1 ≤ 30) (ko : Nat) (hko : ko < 8) (eo : M 54 25 = nI ko) (x : Int32) : MS g mX12_bowsAs 4 0 0 [.ref 54, .int 2, .int x] (Gs (acS M A)) (dI (bowK ko 2 x A).1 (Gs (acS M (bowK ko 2 x A).2))) := by
  refine MS.of pn_X12 (Nat.le_of_ble_eq_true rfl) ?_
  refine r_iload_n dX12_bowsAs_0 rfl rfl ?_
  refine r_tableAt (tgt := 28) 2 dX12_bowsAs_1 rfl (by decide) (by decide) rfl (by decide) ?_
  refine r_aload_n dX12_bowsAs_28 rfl rfl ?_
  refine r_bipush (v := 30) dX12_bowsAs_29 (by decide) ?_
  refine r_callV_dV (ci := 12) dX12_bowsAs_31 (s_X12_starts g (A := A) hA 30) mf_X12_starts mi_X12_starts se_X12_X12_X12_starts ml_X12_259 rfl rfl (Nat.le_of_ble_eq_true rfl) rfl (by decide) rfl (Nat.le_of_ble_eq_true rfl) ⟨(Nat.le_of_ble_eq_true rfl), (Nat.le_of_ble_eq_true rfl)⟩ ⟨(Nat.le_of_ble_eq_true rfl), (Nat.le_of_ble_eq_true rfl)⟩ ?_
  refine r_aload_n dX12_bowsAs_34 rfl rfl ?_
  refine r_iconst (v := 0) dX12_bowsAs_35 (by decide) ?_
  refine r_iload_n dX12_bowsAs_36 rfl rfl ?_
  refine r_callV_dI (ci := 12) dX12_bowsAs_37 (s_bows_0_2 g (stA_le hA) ko hko eo _) mf_X12_bowsAs mi_X12_bowsAs se_X12_X12_X12_bowsAs ml_X12_262 rfl rfl (Nat.le_of_ble_eq_true rfl) rfl (by decide) rfl (Nat.le_of_ble_eq_true rfl) ⟨(Nat.le_of_ble_eq_true rfl), (Nat.le_of_ble_eq_true rfl)⟩ ⟨(Nat.le_of_ble_eq_true rfl), (Nat.le_of_ble_eq_true rfl)⟩ ?_
  refine r_ineg dX12_bowsAs_40 ?_
  refine r_iret dX12_bowsAs_41 rfl (Nat.le_refl _) ?_
  (try dsimp only [Gs_M])
  exact ⟨rfl, rfl⟩
set_option maxRecDepth 20000 in
set_option maxHeartbeats 1000000 in
theorem s_bows_3_4 (g : pG) {M : Nat → Nat → Int32} {A : aT} (hA : A.2.1 ≤ 30) (ko : Nat) (hko : ko < 8) (eo : M 54 25 = nI ko) (x : Int32) : MS g mX12_bowsAs 4 0 0 [.ref 54, .int 3, .int x] (Gs (acS M A)) (dI (bowK ko 3 x A).1 (Gs (acS M (bowK ko 3 x A).2))) := by
  refine MS.of pn_X12 (Nat.le_of_ble_eq_true rfl) ?_
  refine r_iload_n dX12_bowsAs_0 rfl rfl ?_
  refine r_tableAt (tgt := 42) 3 dX12_bowsAs_1 rfl (by decide) (by decide) rfl (by decide) ?_
  refine r_aload_n dX12_bowsAs_42 rfl rfl ?_
  refine r_bipush (v := 51) dX12_bowsAs_43 (by decide) ?_
  refine r_callV_dV (ci := 12) dX12_bowsAs_45 (s_X12_starts g (A := A) hA 51) mf_X12_starts mi_X12_starts se_X12_X12_X12_starts ml_X12_259 rfl rfl (Nat.le_of_ble_eq_true rfl) rfl (by decide) rfl (Nat.le_of_ble_eq_true rfl) ⟨(Nat.le_of_ble_eq_true rfl), (Nat.le_of_ble_eq_true rfl)⟩ ⟨(Nat.le_of_ble_eq_true rfl), (Nat.le_of_ble_eq_true rfl)⟩ ?_
  refine r_aload_n dX12_bowsAs_48 rfl rfl ?_
  refine r_iconst (v := 0) dX12_bowsAs_49 (by decide) ?_
  refine r_iload_n dX12_bowsAs_50 rfl rfl ?_
  refine r_callV_dI (ci := 12) dX12_bowsAs_51 (s_bows_0_2 g (stA_le hA) ko hko eo _) mf_X12_bowsAs mi_X12_bowsAs se_X12_X12_X12_bowsAs ml_X12_262 rfl rfl (Nat.le_of_ble_eq_true rfl) rfl (by decide) rfl (Nat.le_of_ble_eq_true rfl) ⟨(Nat.le_of_ble_eq_true rfl), (Nat.le_of_ble_eq_true rfl)⟩ ⟨(Nat.le_of_ble_eq_true rfl), (Nat.le_of_ble_eq_true rfl)⟩ ?_
  refine r_iconst (v := 2) dX12_bowsAs_54 (by decide) ?_
  refine r_imul dX12_bowsAs_55 ?_
  refine r_iret dX12_bowsAs_56 rfl (Nat.le_refl _) ?_
  (try dsimp only [Gs_M])
  exact ⟨rfl, rfl⟩
set_option maxRecDepth 20000 in
set_option maxHeartbeats 1000000 in
theorem s_bows_4_4 (g : pG) {M : Nat → Nat → Int32} {A : aT} (hA : A.2.1 ≤ 30) (ko : Nat) (hko : ko < 8) (eo : M 54 25 = nI ko) (x : Int32) : MS g mX12_bowsAs 4 0 0 [.ref 54, .int 4, .int x] (Gs (acS M A)) (dI (bowK ko 4 x A).1 (Gs (acS M (bowK ko 4 x A).2))) := by
  refine MS.of pn_X12 (Nat.le_of_ble_eq_true rfl) ?_
  refine r_iload_n dX12_bowsAs_0 rfl rfl ?_
  refine r_tableAt (tgt := 57) 4 dX12_bowsAs_1 rfl (by decide) (by decide) rfl (by decide) ?_
  refine r_aload_n dX12_bowsAs_57 rfl rfl ?_
  refine r_bipush (v := 40) dX12_bowsAs_58 (by decide) ?_
  refine r_callV_dV (ci := 12) dX12_bowsAs_60 (s_X12_starts g (A := A) hA 40) mf_X12_starts mi_X12_starts se_X12_X12_X12_starts ml_X12_259 rfl rfl (Nat.le_of_ble_eq_true rfl) rfl (by decide) rfl (Nat.le_of_ble_eq_true rfl) ⟨(Nat.le_of_ble_eq_true rfl), (Nat.le_of_ble_eq_true rfl)⟩ ⟨(Nat.le_of_ble_eq_true rfl), (Nat.le_of_ble_eq_true rfl)⟩ ?_
  refine r_aload_n dX12_bowsAs_63 rfl rfl ?_
  refine r_iconst (v := 2) dX12_bowsAs_64 (by decide) ?_
  refine r_iload_n dX12_bowsAs_65 rfl rfl ?_
  refine r_callV_dI (ci := 12) dX12_bowsAs_66 (s_bows_2_3 g (stA_le hA) ko hko eo _) mf_X12_bowsAs mi_X12_bowsAs se_X12_X12_X12_bowsAs ml_X12_262 rfl rfl (Nat.le_of_ble_eq_true rfl) rfl (by decide) rfl (Nat.le_of_ble_eq_true rfl) ⟨(Nat.le_of_ble_eq_true rfl), (Nat.le_of_ble_eq_true rfl)⟩ ⟨(Nat.le_of_ble_eq_true rfl), (Nat.le_of_ble_eq_true rfl)⟩ ?_
  refine r_iconst (v := 5) dX12_bowsAs_69 (by decide) ?_
  refine r_iadd dX12_bowsAs_70 ?_
  refine r_iret dX12_bowsAs_71 rfl (Nat.le_refl _) ?_
  (try dsimp only [Gs_M])
  exact ⟨rfl, rfl⟩
set_option maxRecDepth 20000 in
set_option maxHeartbeats 1000000 in
theorem s_bows_5_4 (g : pG) {M : Nat → Nat → Int32} {A : aT} (hA : A.2.1 ≤ 30) (ko : Nat) (hko : ko < 8) (eo : M 54 25 = nI ko) (x : Int32) : MS g mX12_bowsAs 4 0 0 [.ref 54, .int 5, .int x] (Gs (acS M A)) (dI (bowK ko 5 x A).1 (Gs (acS M (bowK ko 5 x A).2))) := by
  refine MS.of pn_X12 (Nat.le_of_ble_eq_true rfl) ?_
  refine r_iload_n dX12_bowsAs_0 rfl rfl ?_
  refine r_tableOut (tgt := 72) dX12_bowsAs_1 (out_of2 (lo := 2) (n := 4) (by decide) (fun j hl hj => ?_)) (by decide) ?_
  · rcases (by omega : j = 2 ∨ j = 3 ∨ j = 4) with rfl | rfl | rfl
    · decide
    · decide
    · decide
  refine r_aload_n dX12_bowsAs_72 rfl rfl ?_
  refine r_bipush (v := 10) dX12_bowsAs_73 (by decide) ?_
  refine r_callV_dV (ci := 12) dX12_bowsAs_75 (s_X12_starts g (A := A) hA 10) mf_X12_starts mi_X12_starts se_X12_X12_X12_starts ml_X12_259 rfl rfl (Nat.le_of_ble_eq_true rfl) rfl (by decide) rfl (Nat.le_of_ble_eq_true rfl) ⟨(Nat.le_of_ble_eq_true rfl), (Nat.le_of_ble_eq_true rfl)⟩ ⟨(Nat.le_of_ble_eq_true rfl), (Nat.le_of_ble_eq_true rfl)⟩ ?_
  refine r_iload_n dX12_bowsAs_78 rfl rfl ?_
  refine r_bipush (v := 6) dX12_bowsAs_79 (by decide) ?_
  refine r_imul dX12_bowsAs_81 ?_
  refine r_aload_n dX12_bowsAs_82 rfl rfl ?_
  refine r_getI dX12_bowsAs_83 (ci := 12) (kf := 25) rfl (Nat.le_of_ble_eq_true rfl) (by decide) (by decide) rfl fl_X12_265 (Or.inl rfl) ?_
  rw [acS_own, eo]
  refine r_isub dX12_bowsAs_86 ?_
  refine r_iret dX12_bowsAs_87 rfl (Nat.le_refl _) ?_
  (try dsimp only [Gs_M])
  exact ⟨rfl, rfl⟩
theorem s_bowsC (g : pG) {M : Nat → Nat → Int32} {A : aT} (hA : A.2.1 ≤ 30) (ko : Nat) (hko : ko < 8) (eo : M 54 25 = nI ko) (k : Nat) (hk : k ≤ 5) (x : Int32) : MS g mX12_bowsAs 4 0 0 [.ref 54, .int (nI k), .int x] (Gs (acS M A)) (dI (bowK ko k x A).1 (Gs (acS M (bowK ko k x A).2))) := by
  rcases (by omega : k = 0 ∨ k = 1 ∨ k = 2 ∨ k = 3 ∨ k = 4 ∨ k = 5) with rfl | rfl | rfl | rfl | rfl | rfl
  · exact s_bows_0_4 g hA ko hko eo x
  · exact s_bows_1_4 g hA ko hko eo x
  · exact s_bows_2_4 g hA ko hko eo x
  · exact s_bows_3_4 g hA ko hko eo x
  · exact s_bows_4_4 g hA ko hko eo x
  · exact s_bows_5_4 g hA ko hko eo x
set_option maxRecDepth 20000 in
set_option maxHeartbeats 1000000 in
theorem s_sings_0_5 (g : pG) {M : Nat → Nat → Int32} {A : aT} (hA : A.2.1 ≤ 30) (ko : Nat) (hko : ko < 8) (eo : M 54 25 = nI ko) (kd : Nat) (hkd : kd ≤ 5) (ek : M 55 (16 + 11 * ko + 0) = nI kd) (x : Int32) : MS g mX12_singsAs 5 0 0 [.ref 54, .int 0, .int x] (Gs (acS M A)) (dI (sngK ko kd (M 55 (16 + 11 * ko + 1)) 0 x A).1 (Gs (acS M (sngK ko kd (M 55 (16 + 11 * ko + 1)) 0 x A).2))) := by
  refine MS.of pn_X12 (Nat.le_of_ble_eq_true rfl) ?_
  refine r_iload_n dX12_singsAs_0 rfl rfl ?_
  refine r_iconst (v := 1) dX12_singsAs_1 (by decide) ?_
  refine r_icmp_eq (tgt := 10) dX12_singsAs_2 (by decide) (fun c => absurd c (by decide)) (fun _ => ?_)
  refine r_iload_n dX12_singsAs_5 rfl rfl ?_
  refine r_iconst (v := 3) dX12_singsAs_6 (by decide) ?_
  refine r_icmp_ne (tgt := 25) dX12_singsAs_7 (by decide) (fun _ => ?_) (fun c => absurd c (by decide))
  refine r_iload_n dX12_singsAs_25 rfl rfl ?_
  refine r_iconst (v := 4) dX12_singsAs_26 (by decide) ?_
  refine r_icmp_ne (tgt := 60) dX12_singsAs_27 (by decide) (fun _ => ?_) (fun c => absurd c (by decide))
  refine r_aload_n dX12_singsAs_60 rfl rfl ?_
  refine r_bipush (v := 11) dX12_singsAs_61 (by decide) ?_
  refine r_callV_dV (ci := 12) dX12_singsAs_63 (s_X12_starts g (A := A) hA 11) mf_X12_starts mi_X12_starts se_X12_X12_X12_starts ml_X12_259 rfl rfl (Nat.le_of_ble_eq_true rfl) rfl (by decide) rfl (Nat.le_of_ble_eq_true rfl) ⟨(Nat.le_of_ble_eq_true rfl), (Nat.le_of_ble_eq_true rfl)⟩ ⟨(Nat.le_of_ble_eq_true rfl), (Nat.le_of_ble_eq_true rfl)⟩ ?_
  refine r_aload_n dX12_singsAs_66 rfl rfl ?_
  refine r_aload_n dX12_singsAs_67 rfl rfl ?_
  refine r_aload_n dX12_singsAs_68 rfl rfl ?_
  refine r_getI dX12_singsAs_69 (ci := 12) (kf := 25) rfl (Nat.le_of_ble_eq_true rfl) (by decide) (by decide) rfl fl_X12_265 (Or.inl rfl) ?_
  rw [acS_own, eo]
  refine r_iconst (v := 0) dX12_singsAs_72 (by decide) ?_
  refine r_callV_dI (ci := 12) dX12_singsAs_73 (s_X12_get g (by exact ⟨rfl, rfl, rfl⟩) (ko) (0) (by omega) (by omega)) mf_X12_get mi_X12_get se_X12_X12_X12_get ml_X12_67 rfl rfl (Nat.le_of_ble_eq_true rfl) rfl (by decide) rfl (Nat.le_of_ble_eq_true rfl) ⟨(Nat.le_of_ble_eq_true rfl), (Nat.le_of_ble_eq_true rfl)⟩ ⟨(Nat.le_of_ble_eq_true rfl), (Nat.le_of_ble_eq_true rfl)⟩ ?_
  rw [acS_55, ek]
  refine r_iload_n dX12_singsAs_76 rfl rfl ?_
  refine r_callV_dI (ci := 12) dX12_singsAs_77 (s_bowsC g (stA_le hA) ko hko eo kd hkd _) mf_X12_bowsAs mi_X12_bowsAs se_X12_X12_X12_bowsAs ml_X12_262 rfl rfl (Nat.le_of_ble_eq_true rfl) rfl (by decide) rfl (Nat.le_of_ble_eq_true rfl) ⟨(Nat.le_of_ble_eq_true rfl), (Nat.le_of_ble_eq_true rfl)⟩ ⟨(Nat.le_of_ble_eq_true rfl), (Nat.le_of_ble_eq_true rfl)⟩ ?_
  refine r_aload_n dX12_singsAs_80 rfl rfl ?_
  refine r_aload_n dX12_singsAs_81 rfl rfl ?_
  refine r_getI dX12_singsAs_82 (ci := 12) (kf := 25) rfl (Nat.le_of_ble_eq_true rfl) (by decide) (by decide) rfl fl_X12_265 (Or.inl rfl) ?_
  rw [acS_own, eo]
  refine r_iconst (v := 1) dX12_singsAs_85 (by decide) ?_
  refine r_callV_dI (ci := 12) dX12_singsAs_86 (s_X12_get g (by exact ⟨rfl, rfl, rfl⟩) (ko) (1) (by omega) (by omega)) mf_X12_get mi_X12_get se_X12_X12_X12_get ml_X12_67 rfl rfl (Nat.le_of_ble_eq_true rfl) rfl (by decide) rfl (Nat.le_of_ble_eq_true rfl) ⟨(Nat.le_of_ble_eq_true rfl), (Nat.le_of_ble_eq_true rfl)⟩ ⟨(Nat.le_of_ble_eq_true rfl), (Nat.le_of_ble_eq_true rfl)⟩ ?_
  refine r_iconst (v := 2) dX12_singsAs_89 (by decide) ?_
  refine r_imul dX12_singsAs_90 ?_
  refine r_iadd dX12_singsAs_91 ?_
  refine r_iret dX12_singsAs_92 rfl (Nat.le_refl _) ?_
  (try dsimp only [Gs_M])
  exact ⟨rfl, rfl⟩
set_option maxRecDepth 20000 in
set_option maxHeartbeats 1000000 in
theorem s_sings_2_5 (g : pG) {M : Nat → Nat → Int32} {A : aT} (hA : A.2.1 ≤ 30) (ko : Nat) (hko : ko < 8) (eo : M 54 25 = nI ko) (kd : Nat) (hkd : kd ≤ 5) (ek : M 55 (16 + 11 * ko + 0) = nI kd) (x : Int32) : MS g mX12_singsAs 5 0 0 [.ref 54, .int 2, .int x] (Gs (acS M A)) (dI (sngK ko kd (M 55 (16 + 11 * ko + 1)) 2 x A).1 (Gs (acS M (sngK ko kd (M 55 (16 + 11 * ko + 1)) 2 x A).2))) := by
  refine MS.of pn_X12 (Nat.le_of_ble_eq_true rfl) ?_
  refine r_iload_n dX12_singsAs_0 rfl rfl ?_
  refine r_iconst (v := 1) dX12_singsAs_1 (by decide) ?_
  refine r_icmp_eq (tgt := 10) dX12_singsAs_2 (by decide) (fun c => absurd c (by decide)) (fun _ => ?_)
  refine r_iload_n dX12_singsAs_5 rfl rfl ?_
  refine r_iconst (v := 3) dX12_singsAs_6 (by decide) ?_
  refine r_icmp_ne (tgt := 25) dX12_singsAs_7 (by decide) (fun _ => ?_) (fun c => absurd c (by decide))
  refine r_iload_n dX12_singsAs_25 rfl rfl ?_
  refine r_iconst (v := 4) dX12_singsAs_26 (by decide) ?_
  refine r_icmp_ne (tgt := 60) dX12_singsAs_27 (by decide) (fun _ => ?_) (fun c => absurd c (by decide))
  refine r_aload_n dX12_singsAs_60 rfl rfl ?_
  refine r_bipush (v := 11) dX12_singsAs_61 (by decide) ?_
  refine r_callV_dV (ci := 12) dX12_singsAs_63 (s_X12_starts g (A := A) hA 11) mf_X12_starts mi_X12_starts se_X12_X12_X12_starts ml_X12_259 rfl rfl (Nat.le_of_ble_eq_true rfl) rfl (by decide) rfl (Nat.le_of_ble_eq_true rfl) ⟨(Nat.le_of_ble_eq_true rfl), (Nat.le_of_ble_eq_true rfl)⟩ ⟨(Nat.le_of_ble_eq_true rfl), (Nat.le_of_ble_eq_true rfl)⟩ ?_
  refine r_aload_n dX12_singsAs_66 rfl rfl ?_
  refine r_aload_n dX12_singsAs_67 rfl rfl ?_
  refine r_aload_n dX12_singsAs_68 rfl rfl ?_
  refine r_getI dX12_singsAs_69 (ci := 12) (kf := 25) rfl (Nat.le_of_ble_eq_true rfl) (by decide) (by decide) rfl fl_X12_265 (Or.inl rfl) ?_
  rw [acS_own, eo]
  refine r_iconst (v := 0) dX12_singsAs_72 (by decide) ?_
  refine r_callV_dI (ci := 12) dX12_singsAs_73 (s_X12_get g (by exact ⟨rfl, rfl, rfl⟩) (ko) (0) (by omega) (by omega)) mf_X12_get mi_X12_get se_X12_X12_X12_get ml_X12_67 rfl rfl (Nat.le_of_ble_eq_true rfl) rfl (by decide) rfl (Nat.le_of_ble_eq_true rfl) ⟨(Nat.le_of_ble_eq_true rfl), (Nat.le_of_ble_eq_true rfl)⟩ ⟨(Nat.le_of_ble_eq_true rfl), (Nat.le_of_ble_eq_true rfl)⟩ ?_
  rw [acS_55, ek]
  refine r_iload_n dX12_singsAs_76 rfl rfl ?_
  refine r_callV_dI (ci := 12) dX12_singsAs_77 (s_bowsC g (stA_le hA) ko hko eo kd hkd _) mf_X12_bowsAs mi_X12_bowsAs se_X12_X12_X12_bowsAs ml_X12_262 rfl rfl (Nat.le_of_ble_eq_true rfl) rfl (by decide) rfl (Nat.le_of_ble_eq_true rfl) ⟨(Nat.le_of_ble_eq_true rfl), (Nat.le_of_ble_eq_true rfl)⟩ ⟨(Nat.le_of_ble_eq_true rfl), (Nat.le_of_ble_eq_true rfl)⟩ ?_
  refine r_aload_n dX12_singsAs_80 rfl rfl ?_
  refine r_aload_n dX12_singsAs_81 rfl rfl ?_
  refine r_getI dX12_singsAs_82 (ci := 12) (kf := 25) rfl (Nat.le_of_ble_eq_true rfl) (by decide) (by decide) rfl fl_X12_265 (Or.inl rfl) ?_
  rw [acS_own, eo]
  refine r_iconst (v := 1) dX12_singsAs_85 (by decide) ?_
  refine r_callV_dI (ci := 12) dX12_singsAs_86 (s_X12_get g (by exact ⟨rfl, rfl, rfl⟩) (ko) (1) (by omega) (by omega)) mf_X12_get mi_X12_get se_X12_X12_X12_get ml_X12_67 rfl rfl (Nat.le_of_ble_eq_true rfl) rfl (by decide) rfl (Nat.le_of_ble_eq_true rfl) ⟨(Nat.le_of_ble_eq_true rfl), (Nat.le_of_ble_eq_true rfl)⟩ ⟨(Nat.le_of_ble_eq_true rfl), (Nat.le_of_ble_eq_true rfl)⟩ ?_
  refine r_iconst (v := 2) dX12_singsAs_89 (by decide) ?_
  refine r_imul dX12_singsAs_90 ?_
  refine r_iadd dX12_singsAs_91 ?_
  refine r_iret dX12_singsAs_92 rfl (Nat.le_refl _) ?_
  (try dsimp only [Gs_M])
  exact ⟨rfl, rfl⟩
set_option maxRecDepth 20000 in
set_option maxHeartbeats 1000000 in
theorem s_sings_0_6 (g : pG) {M : Nat → Nat → Int32} {A : aT} (hA : A.2.1 ≤ 30) (ko : Nat) (hko : ko < 8) (eo : M 54 25 = nI ko) (kd : Nat) (hkd : kd ≤ 5) (ek : M 55 (16 + 11 * ko + 0) = nI kd) (x : Int32) : MS g mX12_singsAs 6 0 0 [.ref 54, .int 0, .int x] (Gs (acS M A)) (dI (sngK ko kd (M 55 (16 + 11 * ko + 1)) 0 x A).1 (Gs (acS M (sngK ko kd (M 55 (16 + 11 * ko + 1)) 0 x A).2))) := by
  refine MS.of pn_X12 (Nat.le_of_ble_eq_true rfl) ?_
  refine r_iload_n dX12_singsAs_0 rfl rfl ?_
  refine r_iconst (v := 1) dX12_singsAs_1 (by decide) ?_
  refine r_icmp_eq (tgt := 10) dX12_singsAs_2 (by decide) (fun c => absurd c (by decide)) (fun _ => ?_)
  refine r_iload_n dX12_singsAs_5 rfl rfl ?_
  refine r_iconst (v := 3) dX12_singsAs_6 (by decide) ?_
  refine r_icmp_ne (tgt := 25) dX12_singsAs_7 (by decide) (fun _ => ?_) (fun c => absurd c (by decide))
  refine r_iload_n dX12_singsAs_25 rfl rfl ?_
  refine r_iconst (v := 4) dX12_singsAs_26 (by decide) ?_
  refine r_icmp_ne (tgt := 60) dX12_singsAs_27 (by decide) (fun _ => ?_) (fun c => absurd c (by decide))
  refine r_aload_n dX12_singsAs_60 rfl rfl ?_
  refine r_bipush (v := 11) dX12_singsAs_61 (by decide) ?_
  refine r_callV_dV (ci := 12) dX12_singsAs_63 (s_X12_starts g (A := A) hA 11) mf_X12_starts mi_X12_starts se_X12_X12_X12_starts ml_X12_259 rfl rfl (Nat.le_of_ble_eq_true rfl) rfl (by decide) rfl (Nat.le_of_ble_eq_true rfl) ⟨(Nat.le_of_ble_eq_true rfl), (Nat.le_of_ble_eq_true rfl)⟩ ⟨(Nat.le_of_ble_eq_true rfl), (Nat.le_of_ble_eq_true rfl)⟩ ?_
  refine r_aload_n dX12_singsAs_66 rfl rfl ?_
  refine r_aload_n dX12_singsAs_67 rfl rfl ?_
  refine r_aload_n dX12_singsAs_68 rfl rfl ?_
  refine r_getI dX12_singsAs_69 (ci := 12) (kf := 25) rfl (Nat.le_of_ble_eq_true rfl) (by decide) (by decide) rfl fl_X12_265 (Or.inl rfl) ?_
  rw [acS_own, eo]
  refine r_iconst (v := 0) dX12_singsAs_72 (by decide) ?_
  refine r_callV_dI (ci := 12) dX12_singsAs_73 (s_X12_get g (by exact ⟨rfl, rfl, rfl⟩) (ko) (0) (by omega) (by omega)) mf_X12_get mi_X12_get se_X12_X12_X12_get ml_X12_67 rfl rfl (Nat.le_of_ble_eq_true rfl) rfl (by decide) rfl (Nat.le_of_ble_eq_true rfl) ⟨(Nat.le_of_ble_eq_true rfl), (Nat.le_of_ble_eq_true rfl)⟩ ⟨(Nat.le_of_ble_eq_true rfl), (Nat.le_of_ble_eq_true rfl)⟩ ?_
  rw [acS_55, ek]
  refine r_iload_n dX12_singsAs_76 rfl rfl ?_
  refine r_callV_dI (ci := 12) dX12_singsAs_77 (s_bowsC g (stA_le hA) ko hko eo kd hkd _) mf_X12_bowsAs mi_X12_bowsAs se_X12_X12_X12_bowsAs ml_X12_262 rfl rfl (Nat.le_of_ble_eq_true rfl) rfl (by decide) rfl (Nat.le_of_ble_eq_true rfl) ⟨(Nat.le_of_ble_eq_true rfl), (Nat.le_of_ble_eq_true rfl)⟩ ⟨(Nat.le_of_ble_eq_true rfl), (Nat.le_of_ble_eq_true rfl)⟩ ?_
  refine r_aload_n dX12_singsAs_80 rfl rfl ?_
  refine r_aload_n dX12_singsAs_81 rfl rfl ?_
  refine r_getI dX12_singsAs_82 (ci := 12) (kf := 25) rfl (Nat.le_of_ble_eq_true rfl) (by decide) (by decide) rfl fl_X12_265 (Or.inl rfl) ?_
  rw [acS_own, eo]
  refine r_iconst (v := 1) dX12_singsAs_85 (by decide) ?_
  refine r_callV_dI (ci := 12) dX12_singsAs_86 (s_X12_get g (by exact ⟨rfl, rfl, rfl⟩) (ko) (1) (by omega) (by omega)) mf_X12_get mi_X12_get se_X12_X12_X12_get ml_X12_67 rfl rfl (Nat.le_of_ble_eq_true rfl) rfl (by decide) rfl (Nat.le_of_ble_eq_true rfl) ⟨(Nat.le_of_ble_eq_true rfl), (Nat.le_of_ble_eq_true rfl)⟩ ⟨(Nat.le_of_ble_eq_true rfl), (Nat.le_of_ble_eq_true rfl)⟩ ?_
  refine r_iconst (v := 2) dX12_singsAs_89 (by decide) ?_
  refine r_imul dX12_singsAs_90 ?_
  refine r_iadd dX12_singsAs_91 ?_
  refine r_iret dX12_singsAs_92 rfl (Nat.le_refl _) ?_
  (try dsimp only [Gs_M])
  exact ⟨rfl, rfl⟩
set_option maxRecDepth 20000 in
set_option maxHeartbeats 1000000 in
theorem s_sings_1_6 (g : pG) {M : Nat → Nat → Int32} {A : aT} (hA : A.2.1 ≤ 30) (ko : Nat) (hko : ko < 8) (eo : M 54 25 = nI ko) (kd : Nat) (hkd : kd ≤ 5) (ek : M 55 (16 + 11 * ko + 0) = nI kd) (x : Int32) : MS g mX12_singsAs 6 0 0 [.ref 54, .int 1, .int x] (Gs (acS M A)) (dI (sngK ko kd (M 55 (16 + 11 * ko + 1)) 1 x A).1 (Gs (acS M (sngK ko kd (M 55 (16 + 11 * ko + 1)) 1 x A).2))) := by
  refine MS.of pn_X12 (Nat.le_of_ble_eq_true rfl) ?_
  refine r_iload_n dX12_singsAs_0 rfl rfl ?_
  refine r_iconst (v := 1) dX12_singsAs_1 (by decide) ?_
  refine r_icmp_eq (tgt := 10) dX12_singsAs_2 (by decide) (fun _ => ?_) (fun c => absurd c (by decide))
  refine r_aload_n dX12_singsAs_10 rfl rfl ?_
  refine r_bipush (v := 20) dX12_singsAs_11 (by decide) ?_
  refine r_callV_dV (ci := 12) dX12_singsAs_13 (s_X12_starts g (A := A) hA 20) mf_X12_starts mi_X12_starts se_X12_X12_X12_starts ml_X12_259 rfl rfl (Nat.le_of_ble_eq_true rfl) rfl (by decide) rfl (Nat.le_of_ble_eq_true rfl) ⟨(Nat.le_of_ble_eq_true rfl), (Nat.le_of_ble_eq_true rfl)⟩ ⟨(Nat.le_of_ble_eq_true rfl), (Nat.le_of_ble_eq_true rfl)⟩ ?_
  refine r_aload_n dX12_singsAs_16 rfl rfl ?_
  refine r_iconst (v := 0) dX12_singsAs_17 (by decide) ?_
  refine r_iload_n dX12_singsAs_18 rfl rfl ?_
  refine r_callV_dI (ci := 12) dX12_singsAs_19 (s_sings_0_5 g (stA_le hA) ko hko eo kd hkd ek _) mf_X12_singsAs mi_X12_singsAs se_X12_X12_X12_singsAs ml_X12_268 rfl rfl (Nat.le_of_ble_eq_true rfl) rfl (by decide) rfl (Nat.le_of_ble_eq_true rfl) ⟨(Nat.le_of_ble_eq_true rfl), (Nat.le_of_ble_eq_true rfl)⟩ ⟨(Nat.le_of_ble_eq_true rfl), (Nat.le_of_ble_eq_true rfl)⟩ ?_
  refine r_iconst (v := 3) dX12_singsAs_22 (by decide) ?_
  refine r_imul dX12_singsAs_23 ?_
  refine r_iret dX12_singsAs_24 rfl (Nat.le_refl _) ?_
  (try dsimp only [Gs_M])
  exact ⟨rfl, rfl⟩
set_option maxRecDepth 20000 in
set_option maxHeartbeats 1000000 in
theorem s_sings_2_6 (g : pG) {M : Nat → Nat → Int32} {A : aT} (hA : A.2.1 ≤ 30) (ko : Nat) (hko : ko < 8) (eo : M 54 25 = nI ko) (kd : Nat) (hkd : kd ≤ 5) (ek : M 55 (16 + 11 * ko + 0) = nI kd) (x : Int32) : MS g mX12_singsAs 6 0 0 [.ref 54, .int 2, .int x] (Gs (acS M A)) (dI (sngK ko kd (M 55 (16 + 11 * ko + 1)) 2 x A).1 (Gs (acS M (sngK ko kd (M 55 (16 + 11 * ko + 1)) 2 x A).2))) := by
  refine MS.of pn_X12 (Nat.le_of_ble_eq_true rfl) ?_
  refine r_iload_n dX12_singsAs_0 rfl rfl ?_
  refine r_iconst (v := 1) dX12_singsAs_1 (by decide) ?_
  refine r_icmp_eq (tgt := 10) dX12_singsAs_2 (by decide) (fun c => absurd c (by decide)) (fun _ => ?_)
  refine r_iload_n dX12_singsAs_5 rfl rfl ?_
  refine r_iconst (v := 3) dX12_singsAs_6 (by decide) ?_
  refine r_icmp_ne (tgt := 25) dX12_singsAs_7 (by decide) (fun _ => ?_) (fun c => absurd c (by decide))
  refine r_iload_n dX12_singsAs_25 rfl rfl ?_
  refine r_iconst (v := 4) dX12_singsAs_26 (by decide) ?_
  refine r_icmp_ne (tgt := 60) dX12_singsAs_27 (by decide) (fun _ => ?_) (fun c => absurd c (by decide))
  refine r_aload_n dX12_singsAs_60 rfl rfl ?_
  refine r_bipush (v := 11) dX12_singsAs_61 (by decide) ?_
  refine r_callV_dV (ci := 12) dX12_singsAs_63 (s_X12_starts g (A := A) hA 11) mf_X12_starts mi_X12_starts se_X12_X12_X12_starts ml_X12_259 rfl rfl (Nat.le_of_ble_eq_true rfl) rfl (by decide) rfl (Nat.le_of_ble_eq_true rfl) ⟨(Nat.le_of_ble_eq_true rfl), (Nat.le_of_ble_eq_true rfl)⟩ ⟨(Nat.le_of_ble_eq_true rfl), (Nat.le_of_ble_eq_true rfl)⟩ ?_
  refine r_aload_n dX12_singsAs_66 rfl rfl ?_
  refine r_aload_n dX12_singsAs_67 rfl rfl ?_
  refine r_aload_n dX12_singsAs_68 rfl rfl ?_
  refine r_getI dX12_singsAs_69 (ci := 12) (kf := 25) rfl (Nat.le_of_ble_eq_true rfl) (by decide) (by decide) rfl fl_X12_265 (Or.inl rfl) ?_
  rw [acS_own, eo]
  refine r_iconst (v := 0) dX12_singsAs_72 (by decide) ?_
  refine r_callV_dI (ci := 12) dX12_singsAs_73 (s_X12_get g (by exact ⟨rfl, rfl, rfl⟩) (ko) (0) (by omega) (by omega)) mf_X12_get mi_X12_get se_X12_X12_X12_get ml_X12_67 rfl rfl (Nat.le_of_ble_eq_true rfl) rfl (by decide) rfl (Nat.le_of_ble_eq_true rfl) ⟨(Nat.le_of_ble_eq_true rfl), (Nat.le_of_ble_eq_true rfl)⟩ ⟨(Nat.le_of_ble_eq_true rfl), (Nat.le_of_ble_eq_true rfl)⟩ ?_
  rw [acS_55, ek]
  refine r_iload_n dX12_singsAs_76 rfl rfl ?_
  refine r_callV_dI (ci := 12) dX12_singsAs_77 (s_bowsC g (stA_le hA) ko hko eo kd hkd _) mf_X12_bowsAs mi_X12_bowsAs se_X12_X12_X12_bowsAs ml_X12_262 rfl rfl (Nat.le_of_ble_eq_true rfl) rfl (by decide) rfl (Nat.le_of_ble_eq_true rfl) ⟨(Nat.le_of_ble_eq_true rfl), (Nat.le_of_ble_eq_true rfl)⟩ ⟨(Nat.le_of_ble_eq_true rfl), (Nat.le_of_ble_eq_true rfl)⟩ ?_
  refine r_aload_n dX12_singsAs_80 rfl rfl ?_
  refine r_aload_n dX12_singsAs_81 rfl rfl ?_
  refine r_getI dX12_singsAs_82 (ci := 12) (kf := 25) rfl (Nat.le_of_ble_eq_true rfl) (by decide) (by decide) rfl fl_X12_265 (Or.inl rfl) ?_
  rw [acS_own, eo]
  refine r_iconst (v := 1) dX12_singsAs_85 (by decide) ?_
  refine r_callV_dI (ci := 12) dX12_singsAs_86 (s_X12_get g (by exact ⟨rfl, rfl, rfl⟩) (ko) (1) (by omega) (by omega)) mf_X12_get mi_X12_get se_X12_X12_X12_get ml_X12_67 rfl rfl (Nat.le_of_ble_eq_true rfl) rfl (by decide) rfl (Nat.le_of_ble_eq_true rfl) ⟨(Nat.le_of_ble_eq_true rfl), (Nat.le_of_ble_eq_true rfl)⟩ ⟨(Nat.le_of_ble_eq_true rfl), (Nat.le_of_ble_eq_true rfl)⟩ ?_
  refine r_iconst (v := 2) dX12_singsAs_89 (by decide) ?_
  refine r_imul dX12_singsAs_90 ?_
  refine r_iadd dX12_singsAs_91 ?_
  refine r_iret dX12_singsAs_92 rfl (Nat.le_refl _) ?_
  (try dsimp only [Gs_M])
  exact ⟨rfl, rfl⟩
set_option maxRecDepth 20000 in
set_option maxHeartbeats 1000000 in
theorem s_sings_3_6 (g : pG) {M : Nat → Nat → Int32} {A : aT} (hA : A.2.1 ≤ 30) (ko : Nat) (hko : ko < 8) (eo : M 54 25 = nI ko) (kd : Nat) (hkd : kd ≤ 5) (ek : M 55 (16 + 11 * ko + 0) = nI kd) (x : Int32) : MS g mX12_singsAs 6 0 0 [.ref 54, .int 3, .int x] (Gs (acS M A)) (dI (sngK ko kd (M 55 (16 + 11 * ko + 1)) 3 x A).1 (Gs (acS M (sngK ko kd (M 55 (16 + 11 * ko + 1)) 3 x A).2))) := by
  refine MS.of pn_X12 (Nat.le_of_ble_eq_true rfl) ?_
  refine r_iload_n dX12_singsAs_0 rfl rfl ?_
  refine r_iconst (v := 1) dX12_singsAs_1 (by decide) ?_
  refine r_icmp_eq (tgt := 10) dX12_singsAs_2 (by decide) (fun c => absurd c (by decide)) (fun _ => ?_)
  refine r_iload_n dX12_singsAs_5 rfl rfl ?_
  refine r_iconst (v := 3) dX12_singsAs_6 (by decide) ?_
  refine r_icmp_ne (tgt := 25) dX12_singsAs_7 (by decide) (fun c => absurd c (by decide)) (fun _ => ?_)
  refine r_aload_n dX12_singsAs_10 rfl rfl ?_
  refine r_bipush (v := 20) dX12_singsAs_11 (by decide) ?_
  refine r_callV_dV (ci := 12) dX12_singsAs_13 (s_X12_starts g (A := A) hA 20) mf_X12_starts mi_X12_starts se_X12_X12_X12_starts ml_X12_259 rfl rfl (Nat.le_of_ble_eq_true rfl) rfl (by decide) rfl (Nat.le_of_ble_eq_true rfl) ⟨(Nat.le_of_ble_eq_true rfl), (Nat.le_of_ble_eq_true rfl)⟩ ⟨(Nat.le_of_ble_eq_true rfl), (Nat.le_of_ble_eq_true rfl)⟩ ?_
  refine r_aload_n dX12_singsAs_16 rfl rfl ?_
  refine r_iconst (v := 0) dX12_singsAs_17 (by decide) ?_
  refine r_iload_n dX12_singsAs_18 rfl rfl ?_
  refine r_callV_dI (ci := 12) dX12_singsAs_19 (s_sings_0_5 g (stA_le hA) ko hko eo kd hkd ek _) mf_X12_singsAs mi_X12_singsAs se_X12_X12_X12_singsAs ml_X12_268 rfl rfl (Nat.le_of_ble_eq_true rfl) rfl (by decide) rfl (Nat.le_of_ble_eq_true rfl) ⟨(Nat.le_of_ble_eq_true rfl), (Nat.le_of_ble_eq_true rfl)⟩ ⟨(Nat.le_of_ble_eq_true rfl), (Nat.le_of_ble_eq_true rfl)⟩ ?_
  refine r_iconst (v := 3) dX12_singsAs_22 (by decide) ?_
  refine r_imul dX12_singsAs_23 ?_
  refine r_iret dX12_singsAs_24 rfl (Nat.le_refl _) ?_
  (try dsimp only [Gs_M])
  exact ⟨rfl, rfl⟩
set_option maxRecDepth 20000 in
set_option maxHeartbeats 1000000 in
theorem s_sings_4_6 (g : pG) {M : Nat → Nat → Int32} {A : aT} (hA : A.2.1 ≤ 30) (ko : Nat) (hko : ko < 8) (eo : M 54 25 = nI ko) (kd : Nat) (hkd : kd ≤ 5) (ek : M 55 (16 + 11 * ko + 0) = nI kd) (x : Int32) : MS g mX12_singsAs 6 0 0 [.ref 54, .int 4, .int x] (Gs (acS M A)) (dI (sngK ko kd (M 55 (16 + 11 * ko + 1)) 4 x A).1 (Gs (acS M (sngK ko kd (M 55 (16 + 11 * ko + 1)) 4 x A).2))) := by
  refine MS.of pn_X12 (Nat.le_of_ble_eq_true rfl) ?_
  refine r_iload_n dX12_singsAs_0 rfl rfl ?_
  refine r_iconst (v := 1) dX12_singsAs_1 (by decide) ?_
  refine r_icmp_eq (tgt := 10) dX12_singsAs_2 (by decide) (fun c => absurd c (by decide)) (fun _ => ?_)
  refine r_iload_n dX12_singsAs_5 rfl rfl ?_
  refine r_iconst (v := 3) dX12_singsAs_6 (by decide) ?_
  refine r_icmp_ne (tgt := 25) dX12_singsAs_7 (by decide) (fun _ => ?_) (fun c => absurd c (by decide))
  refine r_iload_n dX12_singsAs_25 rfl rfl ?_
  refine r_iconst (v := 4) dX12_singsAs_26 (by decide) ?_
  refine r_icmp_ne (tgt := 60) dX12_singsAs_27 (by decide) (fun c => absurd c (by decide)) (fun _ => ?_)
  refine r_aload_n dX12_singsAs_30 rfl rfl ?_
  refine r_bipush (v := 41) dX12_singsAs_31 (by decide) ?_
  refine r_callV_dV (ci := 12) dX12_singsAs_33 (s_X12_starts g (A := A) hA 41) mf_X12_starts mi_X12_starts se_X12_X12_X12_starts ml_X12_259 rfl rfl (Nat.le_of_ble_eq_true rfl) rfl (by decide) rfl (Nat.le_of_ble_eq_true rfl) ⟨(Nat.le_of_ble_eq_true rfl), (Nat.le_of_ble_eq_true rfl)⟩ ⟨(Nat.le_of_ble_eq_true rfl), (Nat.le_of_ble_eq_true rfl)⟩ ?_
  refine r_aload_n dX12_singsAs_36 rfl rfl ?_
  refine r_iconst (v := 2) dX12_singsAs_37 (by decide) ?_
  refine r_iload_n dX12_singsAs_38 rfl rfl ?_
  refine r_callV_dI (ci := 12) dX12_singsAs_39 (s_sings_2_5 g (stA_le hA) ko hko eo kd hkd ek _) mf_X12_singsAs mi_X12_singsAs se_X12_X12_X12_singsAs ml_X12_268 rfl rfl (Nat.le_of_ble_eq_true rfl) rfl (by decide) rfl (Nat.le_of_ble_eq_true rfl) ⟨(Nat.le_of_ble_eq_true rfl), (Nat.le_of_ble_eq_true rfl)⟩ ⟨(Nat.le_of_ble_eq_true rfl), (Nat.le_of_ble_eq_true rfl)⟩ ?_
  refine r_istore_n dX12_singsAs_42 rfl (by decide) ?_
  refine r_iload_n dX12_singsAs_43 rfl rfl ?_
  refine r_aload_n dX12_singsAs_44 rfl rfl ?_
  refine r_iconst (v := 4) dX12_singsAs_45 (by decide) ?_
  refine r_aload_n dX12_singsAs_46 rfl rfl ?_
  refine r_aload_n dX12_singsAs_47 rfl rfl ?_
  refine r_getI dX12_singsAs_48 (ci := 12) (kf := 25) rfl (Nat.le_of_ble_eq_true rfl) (by decide) (by decide) rfl fl_X12_265 (Or.inl rfl) ?_
  rw [acS_own, eo]
  refine r_iconst (v := 1) dX12_singsAs_51 (by decide) ?_
  refine r_callV_dI (ci := 12) dX12_singsAs_52 (s_X12_get g (by exact ⟨rfl, rfl, rfl⟩) (ko) (1) (by omega) (by omega)) mf_X12_get mi_X12_get se_X12_X12_X12_get ml_X12_67 rfl rfl (Nat.le_of_ble_eq_true rfl) rfl (by decide) rfl (Nat.le_of_ble_eq_true rfl) ⟨(Nat.le_of_ble_eq_true rfl), (Nat.le_of_ble_eq_true rfl)⟩ ⟨(Nat.le_of_ble_eq_true rfl), (Nat.le_of_ble_eq_true rfl)⟩ ?_
  refine r_callV_dI (ci := 12) dX12_singsAs_55 (s_bows_4_4 g (sngK_le (stA_le hA)) ko hko eo _) mf_X12_bowsAs mi_X12_bowsAs se_X12_X12_X12_bowsAs ml_X12_262 rfl rfl (Nat.le_of_ble_eq_true rfl) rfl (by decide) rfl (Nat.le_of_ble_eq_true rfl) ⟨(Nat.le_of_ble_eq_true rfl), (Nat.le_of_ble_eq_true rfl)⟩ ⟨(Nat.le_of_ble_eq_true rfl), (Nat.le_of_ble_eq_true rfl)⟩ ?_
  refine r_ixor dX12_singsAs_58 ?_
  refine r_iret dX12_singsAs_59 rfl (Nat.le_refl _) ?_
  (try dsimp only [Gs_M])
  exact ⟨rfl, rfl⟩
set_option maxRecDepth 20000 in
set_option maxHeartbeats 1000000 in
theorem s_sings_5_6 (g : pG) {M : Nat → Nat → Int32} {A : aT} (hA : A.2.1 ≤ 30) (ko : Nat) (hko : ko < 8) (eo : M 54 25 = nI ko) (kd : Nat) (hkd : kd ≤ 5) (ek : M 55 (16 + 11 * ko + 0) = nI kd) (x : Int32) : MS g mX12_singsAs 6 0 0 [.ref 54, .int 5, .int x] (Gs (acS M A)) (dI (sngK ko kd (M 55 (16 + 11 * ko + 1)) 5 x A).1 (Gs (acS M (sngK ko kd (M 55 (16 + 11 * ko + 1)) 5 x A).2))) := by
  refine MS.of pn_X12 (Nat.le_of_ble_eq_true rfl) ?_
  refine r_iload_n dX12_singsAs_0 rfl rfl ?_
  refine r_iconst (v := 1) dX12_singsAs_1 (by decide) ?_
  refine r_icmp_eq (tgt := 10) dX12_singsAs_2 (by decide) (fun c => absurd c (by decide)) (fun _ => ?_)
  refine r_iload_n dX12_singsAs_5 rfl rfl ?_
  refine r_iconst (v := 3) dX12_singsAs_6 (by decide) ?_
  refine r_icmp_ne (tgt := 25) dX12_singsAs_7 (by decide) (fun _ => ?_) (fun c => absurd c (by decide))
  refine r_iload_n dX12_singsAs_25 rfl rfl ?_
  refine r_iconst (v := 4) dX12_singsAs_26 (by decide) ?_
  refine r_icmp_ne (tgt := 60) dX12_singsAs_27 (by decide) (fun _ => ?_) (fun c => absurd c (by decide))
  refine r_aload_n dX12_singsAs_60 rfl rfl ?_
  refine r_bipush (v := 11) dX12_singsAs_61 (by decide) ?_
  refine r_callV_dV (ci := 12) dX12_singsAs_63 (s_X12_starts g (A := A) hA 11) mf_X12_starts mi_X12_starts se_X12_X12_X12_starts ml_X12_259 rfl rfl (Nat.le_of_ble_eq_true rfl) rfl (by decide) rfl (Nat.le_of_ble_eq_true rfl) ⟨(Nat.le_of_ble_eq_true rfl), (Nat.le_of_ble_eq_true rfl)⟩ ⟨(Nat.le_of_ble_eq_true rfl), (Nat.le_of_ble_eq_true rfl)⟩ ?_
  refine r_aload_n dX12_singsAs_66 rfl rfl ?_
  refine r_aload_n dX12_singsAs_67 rfl rfl ?_
  refine r_aload_n dX12_singsAs_68 rfl rfl ?_
  refine r_getI dX12_singsAs_69 (ci := 12) (kf := 25) rfl (Nat.le_of_ble_eq_true rfl) (by decide) (by decide) rfl fl_X12_265 (Or.inl rfl) ?_
  rw [acS_own, eo]
  refine r_iconst (v := 0) dX12_singsAs_72 (by decide) ?_
  refine r_callV_dI (ci := 12) dX12_singsAs_73 (s_X12_get g (by exact ⟨rfl, rfl, rfl⟩) (ko) (0) (by omega) (by omega)) mf_X12_get mi_X12_get se_X12_X12_X12_get ml_X12_67 rfl rfl (Nat.le_of_ble_eq_true rfl) rfl (by decide) rfl (Nat.le_of_ble_eq_true rfl) ⟨(Nat.le_of_ble_eq_true rfl), (Nat.le_of_ble_eq_true rfl)⟩ ⟨(Nat.le_of_ble_eq_true rfl), (Nat.le_of_ble_eq_true rfl)⟩ ?_
  rw [acS_55, ek]
  refine r_iload_n dX12_singsAs_76 rfl rfl ?_
  refine r_callV_dI (ci := 12) dX12_singsAs_77 (s_bowsC g (stA_le hA) ko hko eo kd hkd _) mf_X12_bowsAs mi_X12_bowsAs se_X12_X12_X12_bowsAs ml_X12_262 rfl rfl (Nat.le_of_ble_eq_true rfl) rfl (by decide) rfl (Nat.le_of_ble_eq_true rfl) ⟨(Nat.le_of_ble_eq_true rfl), (Nat.le_of_ble_eq_true rfl)⟩ ⟨(Nat.le_of_ble_eq_true rfl), (Nat.le_of_ble_eq_true rfl)⟩ ?_
  refine r_aload_n dX12_singsAs_80 rfl rfl ?_
  refine r_aload_n dX12_singsAs_81 rfl rfl ?_
  refine r_getI dX12_singsAs_82 (ci := 12) (kf := 25) rfl (Nat.le_of_ble_eq_true rfl) (by decide) (by decide) rfl fl_X12_265 (Or.inl rfl) ?_
  rw [acS_own, eo]
  refine r_iconst (v := 1) dX12_singsAs_85 (by decide) ?_
  refine r_callV_dI (ci := 12) dX12_singsAs_86 (s_X12_get g (by exact ⟨rfl, rfl, rfl⟩) (ko) (1) (by omega) (by omega)) mf_X12_get mi_X12_get se_X12_X12_X12_get ml_X12_67 rfl rfl (Nat.le_of_ble_eq_true rfl) rfl (by decide) rfl (Nat.le_of_ble_eq_true rfl) ⟨(Nat.le_of_ble_eq_true rfl), (Nat.le_of_ble_eq_true rfl)⟩ ⟨(Nat.le_of_ble_eq_true rfl), (Nat.le_of_ble_eq_true rfl)⟩ ?_
  refine r_iconst (v := 2) dX12_singsAs_89 (by decide) ?_
  refine r_imul dX12_singsAs_90 ?_
  refine r_iadd dX12_singsAs_91 ?_
  refine r_iret dX12_singsAs_92 rfl (Nat.le_refl _) ?_
  (try dsimp only [Gs_M])
  exact ⟨rfl, rfl⟩
theorem s_singsC (g : pG) {M : Nat → Nat → Int32} {A : aT} (hA : A.2.1 ≤ 30) (ko : Nat) (hko : ko < 8) (eo : M 54 25 = nI ko) (kd : Nat) (hkd : kd ≤ 5) (ek : M 55 (16 + 11 * ko + 0) = nI kd) (k : Nat) (hk : k ≤ 5) (x : Int32) : MS g mX12_singsAs 6 0 0 [.ref 54, .int (nI k), .int x] (Gs (acS M A)) (dI (sngK ko kd (M 55 (16 + 11 * ko + 1)) k x A).1 (Gs (acS M (sngK ko kd (M 55 (16 + 11 * ko + 1)) k x A).2))) := by
  rcases (by omega : k = 0 ∨ k = 1 ∨ k = 2 ∨ k = 3 ∨ k = 4 ∨ k = 5) with rfl | rfl | rfl | rfl | rfl | rfl
  · exact s_sings_0_6 g hA ko hko eo kd hkd ek x
  · exact s_sings_1_6 g hA ko hko eo kd hkd ek x
  · exact s_sings_2_6 g hA ko hko eo kd hkd ek x
  · exact s_sings_3_6 g hA ko hko eo kd hkd ek x
  · exact s_sings_4_6 g hA ko hko eo kd hkd ek x
  · exact s_sings_5_6 g hA ko hko eo kd hkd ek x
theorem prtK_5 {ko : Nat} {o1 x : Int32} {A : aT} : prtK ko o1 5 x A = if (prt0 ko o1 x (stA 61 A)).2.2.2 = 0 then ((prt0 ko o1 x (stA 61 A)).1 * (bowK ko 5 (nI ko) (prt0 ko o1 x (stA 61 A)).2).1, (bowK ko 5 (nI ko) (prt0 ko o1 x (stA 61 A)).2).2) else (0, (prt0 ko o1 x (stA 61 A)).2) := rfl
set_option maxRecDepth 20000 in
set_option maxHeartbeats 1000000 in
theorem s_parts_0_2 (g : pG) {M : Nat → Nat → Int32} {A : aT} (hA : A.2.1 ≤ 30) (ko : Nat) (hko : ko < 8) (eo : M 54 25 = nI ko) (x : Int32) : MS g mX12_partsAs 2 0 0 [.ref 54, .int 0, .int x] (Gs (acS M A)) (dI (prtK ko (M 55 (16 + 11 * ko + 1)) 0 x A).1 (Gs (acS M (prtK ko (M 55 (16 + 11 * ko + 1)) 0 x A).2))) := by
  refine MS.of pn_X12 (Nat.le_of_ble_eq_true rfl) ?_
  refine r_iload_n dX12_partsAs_0 rfl rfl ?_
  refine r_iconst (v := 3) dX12_partsAs_1 (by decide) ?_
  refine r_icmp_ne (tgt := 31) dX12_partsAs_2 (by decide) (fun _ => ?_) (fun c => absurd c (by decide))
  refine r_iload_n dX12_partsAs_31 rfl rfl ?_
  refine r_iconst (v := 5) dX12_partsAs_32 (by decide) ?_
  refine r_icmp_ne (tgt := 72) dX12_partsAs_33 (by decide) (fun _ => ?_) (fun c => absurd c (by decide))
  refine r_aload_n dX12_partsAs_72 rfl rfl ?_
  refine r_bipush (v := 12) dX12_partsAs_73 (by decide) ?_
  refine r_callV_dV (ci := 12) dX12_partsAs_75 (s_X12_starts g (A := A) hA 12) mf_X12_starts mi_X12_starts se_X12_X12_X12_starts ml_X12_259 rfl rfl (Nat.le_of_ble_eq_true rfl) rfl (by decide) rfl (Nat.le_of_ble_eq_true rfl) ⟨(Nat.le_of_ble_eq_true rfl), (Nat.le_of_ble_eq_true rfl)⟩ ⟨(Nat.le_of_ble_eq_true rfl), (Nat.le_of_ble_eq_true rfl)⟩ ?_
  refine r_aload_n dX12_partsAs_78 rfl rfl ?_
  refine r_aload_n dX12_partsAs_79 rfl rfl ?_
  refine r_getI dX12_partsAs_80 (ci := 12) (kf := 25) rfl (Nat.le_of_ble_eq_true rfl) (by decide) (by decide) rfl fl_X12_265 (Or.inl rfl) ?_
  rw [acS_own, eo]
  refine r_iconst (v := 1) dX12_partsAs_83 (by decide) ?_
  refine r_callV_dI (ci := 12) dX12_partsAs_84 (s_X12_get g (by exact ⟨rfl, rfl, rfl⟩) (ko) (1) (by omega) (by omega)) mf_X12_get mi_X12_get se_X12_X12_X12_get ml_X12_67 rfl rfl (Nat.le_of_ble_eq_true rfl) rfl (by decide) rfl (Nat.le_of_ble_eq_true rfl) ⟨(Nat.le_of_ble_eq_true rfl), (Nat.le_of_ble_eq_true rfl)⟩ ⟨(Nat.le_of_ble_eq_true rfl), (Nat.le_of_ble_eq_true rfl)⟩ ?_
  refine r_aload_n dX12_partsAs_87 rfl rfl ?_
  refine r_getI dX12_partsAs_88 (ci := 12) (kf := 25) rfl (Nat.le_of_ble_eq_true rfl) (by decide) (by decide) rfl fl_X12_265 (Or.inl rfl) ?_
  rw [acS_own, eo]
  refine r_isub dX12_partsAs_91 ?_
  refine r_istore_n dX12_partsAs_92 rfl (by decide) ?_
  refine r_aload_n dX12_partsAs_93 rfl rfl ?_
  refine r_aload_n dX12_partsAs_94 rfl rfl ?_
  refine r_getI dX12_partsAs_95 (ci := 12) (kf := 26) rfl (Nat.le_of_ble_eq_true rfl) (by decide) (by decide) rfl fl_X12_274 (Or.inl rfl) ?_
  refine r_if_ne (tgt := 105) dX12_partsAs_98 (by decide) (fun c_98 => ?_) (fun c_98 => ?_)
  · (try dsimp only [Gs_M] at c_98)
    refine r_iconst (v := 1) dX12_partsAs_105 (by decide) ?_
    refine r_goto (tgt := 110) dX12_partsAs_106 (by decide) ?_
    refine r_putI dX12_partsAs_110 (ci := 12) (kf := 26) rfl (Nat.le_of_ble_eq_true rfl) (by decide) (by decide) rfl fl_X12_274 (Or.inl rfl) rfl rfl rfl ?_
    rw [acS_p]
    refine r_aload_n dX12_partsAs_113 rfl rfl ?_
    refine r_getI dX12_partsAs_114 (ci := 12) (kf := 26) rfl (Nat.le_of_ble_eq_true rfl) (by decide) (by decide) rfl fl_X12_274 (Or.inl rfl) ?_
    refine r_if_eq (tgt := 124) dX12_partsAs_117 (by decide) (fun c_117 => ?_) (fun c_117 => ?_)
    · (try dsimp only [Gs_M] at c_117)
      exact absurd (show (1 : Int32) = 0 from c_117) (by decide)
    · (try dsimp only [Gs_M] at c_117)
      refine r_iconst (v := 0) dX12_partsAs_120 (by decide) ?_
      refine r_goto (tgt := 137) dX12_partsAs_121 (by decide) ?_
      refine r_iret dX12_partsAs_137 rfl (Nat.le_refl _) ?_
      (try dsimp only [Gs_M])
      have c_98 : ¬ A.2.2 = 0 := c_98
      have e : prt0 ko (M 55 (16 + 11 * ko + 1)) x A = (0, (stA 12 A).1, (stA 12 A).2.1, 1) := by rw [prt0, if_neg (fun z => c_98 z.1)]
      have h1 := congrArg (fun r : Int32 × aT => some (Value.int r.1)) e
      have h2 := congrArg (fun r : Int32 × aT => Gs (acS M r.2)) e
      exact ⟨h1.symm, h2.symm⟩
  · (try dsimp only [Gs_M] at c_98)
    refine r_iload_n dX12_partsAs_101 rfl rfl ?_
    refine r_if_ne (tgt := 109) dX12_partsAs_102 (by decide) (fun c_102 => ?_) (fun c_102 => ?_)
    · (try dsimp only [Gs_M] at c_102)
      refine r_iconst (v := 0) dX12_partsAs_109 (by decide) ?_
      refine r_putI dX12_partsAs_110 (ci := 12) (kf := 26) rfl (Nat.le_of_ble_eq_true rfl) (by decide) (by decide) rfl fl_X12_274 (Or.inl rfl) rfl rfl rfl ?_
      rw [acS_p]
      refine r_aload_n dX12_partsAs_113 rfl rfl ?_
      refine r_getI dX12_partsAs_114 (ci := 12) (kf := 26) rfl (Nat.le_of_ble_eq_true rfl) (by decide) (by decide) rfl fl_X12_274 (Or.inl rfl) ?_
      refine r_if_eq (tgt := 124) dX12_partsAs_117 (by decide) (fun c_117 => ?_) (fun c_117 => ?_)
      · (try dsimp only [Gs_M] at c_117)
        refine r_iload_n dX12_partsAs_124 rfl rfl ?_
        refine r_iconst (v := (-1)) dX12_partsAs_125 (by decide) ?_
        refine r_icmp_ne (tgt := 134) dX12_partsAs_126 (by decide) (fun c_126 => ?_) (fun c_126 => ?_)
        · (try dsimp only [Gs_M] at c_126)
          refine r_iload_n dX12_partsAs_134 rfl rfl ?_
          refine r_iload_n dX12_partsAs_135 rfl rfl ?_
          refine r_idiv dX12_partsAs_136 c_102 ?_
          refine r_iret dX12_partsAs_137 rfl (Nat.le_refl _) ?_
          (try dsimp only [Gs_M])
          have c_98 : A.2.2 = 0 := c_98
          have c_102 : ¬ (M 55 (16 + 11 * ko + 1)) - nI ko = 0 := c_102
          have c_126 : ¬ (M 55 (16 + 11 * ko + 1)) - nI ko = -1 := c_126
          have e : prt0 ko (M 55 (16 + 11 * ko + 1)) x A = (x / ((M 55 (16 + 11 * ko + 1)) - nI ko), (stA 12 A).1, (stA 12 A).2.1, 0) := by rw [prt0, if_pos ⟨c_98, c_102⟩, if_neg c_126]
          have h1 := congrArg (fun r : Int32 × aT => some (Value.int r.1)) e
          have h2 := congrArg (fun r : Int32 × aT => Gs (acS M r.2)) e
          exact ⟨h1.symm, h2.symm⟩
        · (try dsimp only [Gs_M] at c_126)
          refine r_iload_n dX12_partsAs_129 rfl rfl ?_
          refine r_ineg dX12_partsAs_130 ?_
          refine r_goto (tgt := 137) dX12_partsAs_131 (by decide) ?_
          refine r_iret dX12_partsAs_137 rfl (Nat.le_refl _) ?_
          (try dsimp only [Gs_M])
          have c_98 : A.2.2 = 0 := c_98
          have c_102 : ¬ (M 55 (16 + 11 * ko + 1)) - nI ko = 0 := c_102
          have c_126 : (M 55 (16 + 11 * ko + 1)) - nI ko = -1 := c_126
          have e : prt0 ko (M 55 (16 + 11 * ko + 1)) x A = (-x, (stA 12 A).1, (stA 12 A).2.1, 0) := by rw [prt0, if_pos ⟨c_98, c_102⟩, if_pos c_126]
          have h1 := congrArg (fun r : Int32 × aT => some (Value.int r.1)) e
          have h2 := congrArg (fun r : Int32 × aT => Gs (acS M r.2)) e
          exact ⟨h1.symm, h2.symm⟩
      · (try dsimp only [Gs_M] at c_117)
        exact absurd rfl c_117
    · (try dsimp only [Gs_M] at c_102)
      refine r_iconst (v := 1) dX12_partsAs_105 (by decide) ?_
      refine r_goto (tgt := 110) dX12_partsAs_106 (by decide) ?_
      refine r_putI dX12_partsAs_110 (ci := 12) (kf := 26) rfl (Nat.le_of_ble_eq_true rfl) (by decide) (by decide) rfl fl_X12_274 (Or.inl rfl) rfl rfl rfl ?_
      rw [acS_p]
      refine r_aload_n dX12_partsAs_113 rfl rfl ?_
      refine r_getI dX12_partsAs_114 (ci := 12) (kf := 26) rfl (Nat.le_of_ble_eq_true rfl) (by decide) (by decide) rfl fl_X12_274 (Or.inl rfl) ?_
      refine r_if_eq (tgt := 124) dX12_partsAs_117 (by decide) (fun c_117 => ?_) (fun c_117 => ?_)
      · (try dsimp only [Gs_M] at c_117)
        exact absurd (show (1 : Int32) = 0 from c_117) (by decide)
      · (try dsimp only [Gs_M] at c_117)
        refine r_iconst (v := 0) dX12_partsAs_120 (by decide) ?_
        refine r_goto (tgt := 137) dX12_partsAs_121 (by decide) ?_
        refine r_iret dX12_partsAs_137 rfl (Nat.le_refl _) ?_
        (try dsimp only [Gs_M])
        have c_98 : A.2.2 = 0 := c_98
        have c_102 : (M 55 (16 + 11 * ko + 1)) - nI ko = 0 := c_102
        have e : prt0 ko (M 55 (16 + 11 * ko + 1)) x A = (0, (stA 12 A).1, (stA 12 A).2.1, 1) := by rw [prt0, if_neg (fun z => z.2 c_102)]
        have h1 := congrArg (fun r : Int32 × aT => some (Value.int r.1)) e
        have h2 := congrArg (fun r : Int32 × aT => Gs (acS M r.2)) e
        exact ⟨h1.symm, h2.symm⟩
set_option maxRecDepth 20000 in
set_option maxHeartbeats 1000000 in
theorem s_parts_1_2 (g : pG) {M : Nat → Nat → Int32} {A : aT} (hA : A.2.1 ≤ 30) (ko : Nat) (hko : ko < 8) (eo : M 54 25 = nI ko) (x : Int32) : MS g mX12_partsAs 2 0 0 [.ref 54, .int 1, .int x] (Gs (acS M A)) (dI (prtK ko (M 55 (16 + 11 * ko + 1)) 1 x A).1 (Gs (acS M (prtK ko (M 55 (16 + 11 * ko + 1)) 1 x A).2))) := by
  refine MS.of pn_X12 (Nat.le_of_ble_eq_true rfl) ?_
  refine r_iload_n dX12_partsAs_0 rfl rfl ?_
  refine r_iconst (v := 3) dX12_partsAs_1 (by decide) ?_
  refine r_icmp_ne (tgt := 31) dX12_partsAs_2 (by decide) (fun _ => ?_) (fun c => absurd c (by decide))
  refine r_iload_n dX12_partsAs_31 rfl rfl ?_
  refine r_iconst (v := 5) dX12_partsAs_32 (by decide) ?_
  refine r_icmp_ne (tgt := 72) dX12_partsAs_33 (by decide) (fun _ => ?_) (fun c => absurd c (by decide))
  refine r_aload_n dX12_partsAs_72 rfl rfl ?_
  refine r_bipush (v := 12) dX12_partsAs_73 (by decide) ?_
  refine r_callV_dV (ci := 12) dX12_partsAs_75 (s_X12_starts g (A := A) hA 12) mf_X12_starts mi_X12_starts se_X12_X12_X12_starts ml_X12_259 rfl rfl (Nat.le_of_ble_eq_true rfl) rfl (by decide) rfl (Nat.le_of_ble_eq_true rfl) ⟨(Nat.le_of_ble_eq_true rfl), (Nat.le_of_ble_eq_true rfl)⟩ ⟨(Nat.le_of_ble_eq_true rfl), (Nat.le_of_ble_eq_true rfl)⟩ ?_
  refine r_aload_n dX12_partsAs_78 rfl rfl ?_
  refine r_aload_n dX12_partsAs_79 rfl rfl ?_
  refine r_getI dX12_partsAs_80 (ci := 12) (kf := 25) rfl (Nat.le_of_ble_eq_true rfl) (by decide) (by decide) rfl fl_X12_265 (Or.inl rfl) ?_
  rw [acS_own, eo]
  refine r_iconst (v := 1) dX12_partsAs_83 (by decide) ?_
  refine r_callV_dI (ci := 12) dX12_partsAs_84 (s_X12_get g (by exact ⟨rfl, rfl, rfl⟩) (ko) (1) (by omega) (by omega)) mf_X12_get mi_X12_get se_X12_X12_X12_get ml_X12_67 rfl rfl (Nat.le_of_ble_eq_true rfl) rfl (by decide) rfl (Nat.le_of_ble_eq_true rfl) ⟨(Nat.le_of_ble_eq_true rfl), (Nat.le_of_ble_eq_true rfl)⟩ ⟨(Nat.le_of_ble_eq_true rfl), (Nat.le_of_ble_eq_true rfl)⟩ ?_
  refine r_aload_n dX12_partsAs_87 rfl rfl ?_
  refine r_getI dX12_partsAs_88 (ci := 12) (kf := 25) rfl (Nat.le_of_ble_eq_true rfl) (by decide) (by decide) rfl fl_X12_265 (Or.inl rfl) ?_
  rw [acS_own, eo]
  refine r_isub dX12_partsAs_91 ?_
  refine r_istore_n dX12_partsAs_92 rfl (by decide) ?_
  refine r_aload_n dX12_partsAs_93 rfl rfl ?_
  refine r_aload_n dX12_partsAs_94 rfl rfl ?_
  refine r_getI dX12_partsAs_95 (ci := 12) (kf := 26) rfl (Nat.le_of_ble_eq_true rfl) (by decide) (by decide) rfl fl_X12_274 (Or.inl rfl) ?_
  refine r_if_ne (tgt := 105) dX12_partsAs_98 (by decide) (fun c_98 => ?_) (fun c_98 => ?_)
  · (try dsimp only [Gs_M] at c_98)
    refine r_iconst (v := 1) dX12_partsAs_105 (by decide) ?_
    refine r_goto (tgt := 110) dX12_partsAs_106 (by decide) ?_
    refine r_putI dX12_partsAs_110 (ci := 12) (kf := 26) rfl (Nat.le_of_ble_eq_true rfl) (by decide) (by decide) rfl fl_X12_274 (Or.inl rfl) rfl rfl rfl ?_
    rw [acS_p]
    refine r_aload_n dX12_partsAs_113 rfl rfl ?_
    refine r_getI dX12_partsAs_114 (ci := 12) (kf := 26) rfl (Nat.le_of_ble_eq_true rfl) (by decide) (by decide) rfl fl_X12_274 (Or.inl rfl) ?_
    refine r_if_eq (tgt := 124) dX12_partsAs_117 (by decide) (fun c_117 => ?_) (fun c_117 => ?_)
    · (try dsimp only [Gs_M] at c_117)
      exact absurd (show (1 : Int32) = 0 from c_117) (by decide)
    · (try dsimp only [Gs_M] at c_117)
      refine r_iconst (v := 0) dX12_partsAs_120 (by decide) ?_
      refine r_goto (tgt := 137) dX12_partsAs_121 (by decide) ?_
      refine r_iret dX12_partsAs_137 rfl (Nat.le_refl _) ?_
      (try dsimp only [Gs_M])
      have c_98 : ¬ A.2.2 = 0 := c_98
      have e : prt0 ko (M 55 (16 + 11 * ko + 1)) x A = (0, (stA 12 A).1, (stA 12 A).2.1, 1) := by rw [prt0, if_neg (fun z => c_98 z.1)]
      have h1 := congrArg (fun r : Int32 × aT => some (Value.int r.1)) e
      have h2 := congrArg (fun r : Int32 × aT => Gs (acS M r.2)) e
      exact ⟨h1.symm, h2.symm⟩
  · (try dsimp only [Gs_M] at c_98)
    refine r_iload_n dX12_partsAs_101 rfl rfl ?_
    refine r_if_ne (tgt := 109) dX12_partsAs_102 (by decide) (fun c_102 => ?_) (fun c_102 => ?_)
    · (try dsimp only [Gs_M] at c_102)
      refine r_iconst (v := 0) dX12_partsAs_109 (by decide) ?_
      refine r_putI dX12_partsAs_110 (ci := 12) (kf := 26) rfl (Nat.le_of_ble_eq_true rfl) (by decide) (by decide) rfl fl_X12_274 (Or.inl rfl) rfl rfl rfl ?_
      rw [acS_p]
      refine r_aload_n dX12_partsAs_113 rfl rfl ?_
      refine r_getI dX12_partsAs_114 (ci := 12) (kf := 26) rfl (Nat.le_of_ble_eq_true rfl) (by decide) (by decide) rfl fl_X12_274 (Or.inl rfl) ?_
      refine r_if_eq (tgt := 124) dX12_partsAs_117 (by decide) (fun c_117 => ?_) (fun c_117 => ?_)
      · (try dsimp only [Gs_M] at c_117)
        refine r_iload_n dX12_partsAs_124 rfl rfl ?_
        refine r_iconst (v := (-1)) dX12_partsAs_125 (by decide) ?_
        refine r_icmp_ne (tgt := 134) dX12_partsAs_126 (by decide) (fun c_126 => ?_) (fun c_126 => ?_)
        · (try dsimp only [Gs_M] at c_126)
          refine r_iload_n dX12_partsAs_134 rfl rfl ?_
          refine r_iload_n dX12_partsAs_135 rfl rfl ?_
          refine r_idiv dX12_partsAs_136 c_102 ?_
          refine r_iret dX12_partsAs_137 rfl (Nat.le_refl _) ?_
          (try dsimp only [Gs_M])
          have c_98 : A.2.2 = 0 := c_98
          have c_102 : ¬ (M 55 (16 + 11 * ko + 1)) - nI ko = 0 := c_102
          have c_126 : ¬ (M 55 (16 + 11 * ko + 1)) - nI ko = -1 := c_126
          have e : prt0 ko (M 55 (16 + 11 * ko + 1)) x A = (x / ((M 55 (16 + 11 * ko + 1)) - nI ko), (stA 12 A).1, (stA 12 A).2.1, 0) := by rw [prt0, if_pos ⟨c_98, c_102⟩, if_neg c_126]
          have h1 := congrArg (fun r : Int32 × aT => some (Value.int r.1)) e
          have h2 := congrArg (fun r : Int32 × aT => Gs (acS M r.2)) e
          exact ⟨h1.symm, h2.symm⟩
        · (try dsimp only [Gs_M] at c_126)
          refine r_iload_n dX12_partsAs_129 rfl rfl ?_
          refine r_ineg dX12_partsAs_130 ?_
          refine r_goto (tgt := 137) dX12_partsAs_131 (by decide) ?_
          refine r_iret dX12_partsAs_137 rfl (Nat.le_refl _) ?_
          (try dsimp only [Gs_M])
          have c_98 : A.2.2 = 0 := c_98
          have c_102 : ¬ (M 55 (16 + 11 * ko + 1)) - nI ko = 0 := c_102
          have c_126 : (M 55 (16 + 11 * ko + 1)) - nI ko = -1 := c_126
          have e : prt0 ko (M 55 (16 + 11 * ko + 1)) x A = (-x, (stA 12 A).1, (stA 12 A).2.1, 0) := by rw [prt0, if_pos ⟨c_98, c_102⟩, if_pos c_126]
          have h1 := congrArg (fun r : Int32 × aT => some (Value.int r.1)) e
          have h2 := congrArg (fun r : Int32 × aT => Gs (acS M r.2)) e
          exact ⟨h1.symm, h2.symm⟩
      · (try dsimp only [Gs_M] at c_117)
        exact absurd rfl c_117
    · (try dsimp only [Gs_M] at c_102)
      refine r_iconst (v := 1) dX12_partsAs_105 (by decide) ?_
      refine r_goto (tgt := 110) dX12_partsAs_106 (by decide) ?_
      refine r_putI dX12_partsAs_110 (ci := 12) (kf := 26) rfl (Nat.le_of_ble_eq_true rfl) (by decide) (by decide) rfl fl_X12_274 (Or.inl rfl) rfl rfl rfl ?_
      rw [acS_p]
      refine r_aload_n dX12_partsAs_113 rfl rfl ?_
      refine r_getI dX12_partsAs_114 (ci := 12) (kf := 26) rfl (Nat.le_of_ble_eq_true rfl) (by decide) (by decide) rfl fl_X12_274 (Or.inl rfl) ?_
      refine r_if_eq (tgt := 124) dX12_partsAs_117 (by decide) (fun c_117 => ?_) (fun c_117 => ?_)
      · (try dsimp only [Gs_M] at c_117)
        exact absurd (show (1 : Int32) = 0 from c_117) (by decide)
      · (try dsimp only [Gs_M] at c_117)
        refine r_iconst (v := 0) dX12_partsAs_120 (by decide) ?_
        refine r_goto (tgt := 137) dX12_partsAs_121 (by decide) ?_
        refine r_iret dX12_partsAs_137 rfl (Nat.le_refl _) ?_
        (try dsimp only [Gs_M])
        have c_98 : A.2.2 = 0 := c_98
        have c_102 : (M 55 (16 + 11 * ko + 1)) - nI ko = 0 := c_102
        have e : prt0 ko (M 55 (16 + 11 * ko + 1)) x A = (0, (stA 12 A).1, (stA 12 A).2.1, 1) := by rw [prt0, if_neg (fun z => z.2 c_102)]
        have h1 := congrArg (fun r : Int32 × aT => some (Value.int r.1)) e
        have h2 := congrArg (fun r : Int32 × aT => Gs (acS M r.2)) e
        exact ⟨h1.symm, h2.symm⟩
set_option maxRecDepth 20000 in
set_option maxHeartbeats 1000000 in
theorem s_parts_0_5 (g : pG) {M : Nat → Nat → Int32} {A : aT} (hA : A.2.1 ≤ 30) (ko : Nat) (hko : ko < 8) (eo : M 54 25 = nI ko) (x : Int32) : MS g mX12_partsAs 5 0 0 [.ref 54, .int 0, .int x] (Gs (acS M A)) (dI (prtK ko (M 55 (16 + 11 * ko + 1)) 0 x A).1 (Gs (acS M (prtK ko (M 55 (16 + 11 * ko + 1)) 0 x A).2))) := by
  refine MS.of pn_X12 (Nat.le_of_ble_eq_true rfl) ?_
  refine r_iload_n dX12_partsAs_0 rfl rfl ?_
  refine r_iconst (v := 3) dX12_partsAs_1 (by decide) ?_
  refine r_icmp_ne (tgt := 31) dX12_partsAs_2 (by decide) (fun _ => ?_) (fun c => absurd c (by decide))
  refine r_iload_n dX12_partsAs_31 rfl rfl ?_
  refine r_iconst (v := 5) dX12_partsAs_32 (by decide) ?_
  refine r_icmp_ne (tgt := 72) dX12_partsAs_33 (by decide) (fun _ => ?_) (fun c => absurd c (by decide))
  refine r_aload_n dX12_partsAs_72 rfl rfl ?_
  refine r_bipush (v := 12) dX12_partsAs_73 (by decide) ?_
  refine r_callV_dV (ci := 12) dX12_partsAs_75 (s_X12_starts g (A := A) hA 12) mf_X12_starts mi_X12_starts se_X12_X12_X12_starts ml_X12_259 rfl rfl (Nat.le_of_ble_eq_true rfl) rfl (by decide) rfl (Nat.le_of_ble_eq_true rfl) ⟨(Nat.le_of_ble_eq_true rfl), (Nat.le_of_ble_eq_true rfl)⟩ ⟨(Nat.le_of_ble_eq_true rfl), (Nat.le_of_ble_eq_true rfl)⟩ ?_
  refine r_aload_n dX12_partsAs_78 rfl rfl ?_
  refine r_aload_n dX12_partsAs_79 rfl rfl ?_
  refine r_getI dX12_partsAs_80 (ci := 12) (kf := 25) rfl (Nat.le_of_ble_eq_true rfl) (by decide) (by decide) rfl fl_X12_265 (Or.inl rfl) ?_
  rw [acS_own, eo]
  refine r_iconst (v := 1) dX12_partsAs_83 (by decide) ?_
  refine r_callV_dI (ci := 12) dX12_partsAs_84 (s_X12_get g (by exact ⟨rfl, rfl, rfl⟩) (ko) (1) (by omega) (by omega)) mf_X12_get mi_X12_get se_X12_X12_X12_get ml_X12_67 rfl rfl (Nat.le_of_ble_eq_true rfl) rfl (by decide) rfl (Nat.le_of_ble_eq_true rfl) ⟨(Nat.le_of_ble_eq_true rfl), (Nat.le_of_ble_eq_true rfl)⟩ ⟨(Nat.le_of_ble_eq_true rfl), (Nat.le_of_ble_eq_true rfl)⟩ ?_
  refine r_aload_n dX12_partsAs_87 rfl rfl ?_
  refine r_getI dX12_partsAs_88 (ci := 12) (kf := 25) rfl (Nat.le_of_ble_eq_true rfl) (by decide) (by decide) rfl fl_X12_265 (Or.inl rfl) ?_
  rw [acS_own, eo]
  refine r_isub dX12_partsAs_91 ?_
  refine r_istore_n dX12_partsAs_92 rfl (by decide) ?_
  refine r_aload_n dX12_partsAs_93 rfl rfl ?_
  refine r_aload_n dX12_partsAs_94 rfl rfl ?_
  refine r_getI dX12_partsAs_95 (ci := 12) (kf := 26) rfl (Nat.le_of_ble_eq_true rfl) (by decide) (by decide) rfl fl_X12_274 (Or.inl rfl) ?_
  refine r_if_ne (tgt := 105) dX12_partsAs_98 (by decide) (fun c_98 => ?_) (fun c_98 => ?_)
  · (try dsimp only [Gs_M] at c_98)
    refine r_iconst (v := 1) dX12_partsAs_105 (by decide) ?_
    refine r_goto (tgt := 110) dX12_partsAs_106 (by decide) ?_
    refine r_putI dX12_partsAs_110 (ci := 12) (kf := 26) rfl (Nat.le_of_ble_eq_true rfl) (by decide) (by decide) rfl fl_X12_274 (Or.inl rfl) rfl rfl rfl ?_
    rw [acS_p]
    refine r_aload_n dX12_partsAs_113 rfl rfl ?_
    refine r_getI dX12_partsAs_114 (ci := 12) (kf := 26) rfl (Nat.le_of_ble_eq_true rfl) (by decide) (by decide) rfl fl_X12_274 (Or.inl rfl) ?_
    refine r_if_eq (tgt := 124) dX12_partsAs_117 (by decide) (fun c_117 => ?_) (fun c_117 => ?_)
    · (try dsimp only [Gs_M] at c_117)
      exact absurd (show (1 : Int32) = 0 from c_117) (by decide)
    · (try dsimp only [Gs_M] at c_117)
      refine r_iconst (v := 0) dX12_partsAs_120 (by decide) ?_
      refine r_goto (tgt := 137) dX12_partsAs_121 (by decide) ?_
      refine r_iret dX12_partsAs_137 rfl (Nat.le_refl _) ?_
      (try dsimp only [Gs_M])
      have c_98 : ¬ A.2.2 = 0 := c_98
      have e : prt0 ko (M 55 (16 + 11 * ko + 1)) x A = (0, (stA 12 A).1, (stA 12 A).2.1, 1) := by rw [prt0, if_neg (fun z => c_98 z.1)]
      have h1 := congrArg (fun r : Int32 × aT => some (Value.int r.1)) e
      have h2 := congrArg (fun r : Int32 × aT => Gs (acS M r.2)) e
      exact ⟨h1.symm, h2.symm⟩
  · (try dsimp only [Gs_M] at c_98)
    refine r_iload_n dX12_partsAs_101 rfl rfl ?_
    refine r_if_ne (tgt := 109) dX12_partsAs_102 (by decide) (fun c_102 => ?_) (fun c_102 => ?_)
    · (try dsimp only [Gs_M] at c_102)
      refine r_iconst (v := 0) dX12_partsAs_109 (by decide) ?_
      refine r_putI dX12_partsAs_110 (ci := 12) (kf := 26) rfl (Nat.le_of_ble_eq_true rfl) (by decide) (by decide) rfl fl_X12_274 (Or.inl rfl) rfl rfl rfl ?_
      rw [acS_p]
      refine r_aload_n dX12_partsAs_113 rfl rfl ?_
      refine r_getI dX12_partsAs_114 (ci := 12) (kf := 26) rfl (Nat.le_of_ble_eq_true rfl) (by decide) (by decide) rfl fl_X12_274 (Or.inl rfl) ?_
      refine r_if_eq (tgt := 124) dX12_partsAs_117 (by decide) (fun c_117 => ?_) (fun c_117 => ?_)
      · (try dsimp only [Gs_M] at c_117)
        refine r_iload_n dX12_partsAs_124 rfl rfl ?_
        refine r_iconst (v := (-1)) dX12_partsAs_125 (by decide) ?_
        refine r_icmp_ne (tgt := 134) dX12_partsAs_126 (by decide) (fun c_126 => ?_) (fun c_126 => ?_)
        · (try dsimp only [Gs_M] at c_126)
          refine r_iload_n dX12_partsAs_134 rfl rfl ?_
          refine r_iload_n dX12_partsAs_135 rfl rfl ?_
          refine r_idiv dX12_partsAs_136 c_102 ?_
          refine r_iret dX12_partsAs_137 rfl (Nat.le_refl _) ?_
          (try dsimp only [Gs_M])
          have c_98 : A.2.2 = 0 := c_98
          have c_102 : ¬ (M 55 (16 + 11 * ko + 1)) - nI ko = 0 := c_102
          have c_126 : ¬ (M 55 (16 + 11 * ko + 1)) - nI ko = -1 := c_126
          have e : prt0 ko (M 55 (16 + 11 * ko + 1)) x A = (x / ((M 55 (16 + 11 * ko + 1)) - nI ko), (stA 12 A).1, (stA 12 A).2.1, 0) := by rw [prt0, if_pos ⟨c_98, c_102⟩, if_neg c_126]
          have h1 := congrArg (fun r : Int32 × aT => some (Value.int r.1)) e
          have h2 := congrArg (fun r : Int32 × aT => Gs (acS M r.2)) e
          exact ⟨h1.symm, h2.symm⟩
        · (try dsimp only [Gs_M] at c_126)
          refine r_iload_n dX12_partsAs_129 rfl rfl ?_
          refine r_ineg dX12_partsAs_130 ?_
          refine r_goto (tgt := 137) dX12_partsAs_131 (by decide) ?_
          refine r_iret dX12_partsAs_137 rfl (Nat.le_refl _) ?_
          (try dsimp only [Gs_M])
          have c_98 : A.2.2 = 0 := c_98
          have c_102 : ¬ (M 55 (16 + 11 * ko + 1)) - nI ko = 0 := c_102
          have c_126 : (M 55 (16 + 11 * ko + 1)) - nI ko = -1 := c_126
          have e : prt0 ko (M 55 (16 + 11 * ko + 1)) x A = (-x, (stA 12 A).1, (stA 12 A).2.1, 0) := by rw [prt0, if_pos ⟨c_98, c_102⟩, if_pos c_126]
          have h1 := congrArg (fun r : Int32 × aT => some (Value.int r.1)) e
          have h2 := congrArg (fun r : Int32 × aT => Gs (acS M r.2)) e
          exact ⟨h1.symm, h2.symm⟩
      · (try dsimp only [Gs_M] at c_117)
        exact absurd rfl c_117
    · (try dsimp only [Gs_M] at c_102)
      refine r_iconst (v := 1) dX12_partsAs_105 (by decide) ?_
      refine r_goto (tgt := 110) dX12_partsAs_106 (by decide) ?_
      refine r_putI dX12_partsAs_110 (ci := 12) (kf := 26) rfl (Nat.le_of_ble_eq_true rfl) (by decide) (by decide) rfl fl_X12_274 (Or.inl rfl) rfl rfl rfl ?_
      rw [acS_p]
      refine r_aload_n dX12_partsAs_113 rfl rfl ?_
      refine r_getI dX12_partsAs_114 (ci := 12) (kf := 26) rfl (Nat.le_of_ble_eq_true rfl) (by decide) (by decide) rfl fl_X12_274 (Or.inl rfl) ?_
      refine r_if_eq (tgt := 124) dX12_partsAs_117 (by decide) (fun c_117 => ?_) (fun c_117 => ?_)
      · (try dsimp only [Gs_M] at c_117)
        exact absurd (show (1 : Int32) = 0 from c_117) (by decide)
      · (try dsimp only [Gs_M] at c_117)
        refine r_iconst (v := 0) dX12_partsAs_120 (by decide) ?_
        refine r_goto (tgt := 137) dX12_partsAs_121 (by decide) ?_
        refine r_iret dX12_partsAs_137 rfl (Nat.le_refl _) ?_
        (try dsimp only [Gs_M])
        have c_98 : A.2.2 = 0 := c_98
        have c_102 : (M 55 (16 + 11 * ko + 1)) - nI ko = 0 := c_102
        have e : prt0 ko (M 55 (16 + 11 * ko + 1)) x A = (0, (stA 12 A).1, (stA 12 A).2.1, 1) := by rw [prt0, if_neg (fun z => z.2 c_102)]
        have h1 := congrArg (fun r : Int32 × aT => some (Value.int r.1)) e
        have h2 := congrArg (fun r : Int32 × aT => Gs (acS M r.2)) e
        exact ⟨h1.symm, h2.symm⟩
set_option maxRecDepth 20000 in
set_option maxHeartbeats 1000000 in
theorem s_parts_1_5 (g : pG) {M : Nat → Nat → Int32} {A : aT} (hA : A.2.1 ≤ 30) (ko : Nat) (hko : ko < 8) (eo : M 54 25 = nI ko) (x : Int32) : MS g mX12_partsAs 5 0 0 [.ref 54, .int 1, .int x] (Gs (acS M A)) (dI (prtK ko (M 55 (16 + 11 * ko + 1)) 1 x A).1 (Gs (acS M (prtK ko (M 55 (16 + 11 * ko + 1)) 1 x A).2))) := by
  refine MS.of pn_X12 (Nat.le_of_ble_eq_true rfl) ?_
  refine r_iload_n dX12_partsAs_0 rfl rfl ?_
  refine r_iconst (v := 3) dX12_partsAs_1 (by decide) ?_
  refine r_icmp_ne (tgt := 31) dX12_partsAs_2 (by decide) (fun _ => ?_) (fun c => absurd c (by decide))
  refine r_iload_n dX12_partsAs_31 rfl rfl ?_
  refine r_iconst (v := 5) dX12_partsAs_32 (by decide) ?_
  refine r_icmp_ne (tgt := 72) dX12_partsAs_33 (by decide) (fun _ => ?_) (fun c => absurd c (by decide))
  refine r_aload_n dX12_partsAs_72 rfl rfl ?_
  refine r_bipush (v := 12) dX12_partsAs_73 (by decide) ?_
  refine r_callV_dV (ci := 12) dX12_partsAs_75 (s_X12_starts g (A := A) hA 12) mf_X12_starts mi_X12_starts se_X12_X12_X12_starts ml_X12_259 rfl rfl (Nat.le_of_ble_eq_true rfl) rfl (by decide) rfl (Nat.le_of_ble_eq_true rfl) ⟨(Nat.le_of_ble_eq_true rfl), (Nat.le_of_ble_eq_true rfl)⟩ ⟨(Nat.le_of_ble_eq_true rfl), (Nat.le_of_ble_eq_true rfl)⟩ ?_
  refine r_aload_n dX12_partsAs_78 rfl rfl ?_
  refine r_aload_n dX12_partsAs_79 rfl rfl ?_
  refine r_getI dX12_partsAs_80 (ci := 12) (kf := 25) rfl (Nat.le_of_ble_eq_true rfl) (by decide) (by decide) rfl fl_X12_265 (Or.inl rfl) ?_
  rw [acS_own, eo]
  refine r_iconst (v := 1) dX12_partsAs_83 (by decide) ?_
  refine r_callV_dI (ci := 12) dX12_partsAs_84 (s_X12_get g (by exact ⟨rfl, rfl, rfl⟩) (ko) (1) (by omega) (by omega)) mf_X12_get mi_X12_get se_X12_X12_X12_get ml_X12_67 rfl rfl (Nat.le_of_ble_eq_true rfl) rfl (by decide) rfl (Nat.le_of_ble_eq_true rfl) ⟨(Nat.le_of_ble_eq_true rfl), (Nat.le_of_ble_eq_true rfl)⟩ ⟨(Nat.le_of_ble_eq_true rfl), (Nat.le_of_ble_eq_true rfl)⟩ ?_
  refine r_aload_n dX12_partsAs_87 rfl rfl ?_
  refine r_getI dX12_partsAs_88 (ci := 12) (kf := 25) rfl (Nat.le_of_ble_eq_true rfl) (by decide) (by decide) rfl fl_X12_265 (Or.inl rfl) ?_
  rw [acS_own, eo]
  refine r_isub dX12_partsAs_91 ?_
  refine r_istore_n dX12_partsAs_92 rfl (by decide) ?_
  refine r_aload_n dX12_partsAs_93 rfl rfl ?_
  refine r_aload_n dX12_partsAs_94 rfl rfl ?_
  refine r_getI dX12_partsAs_95 (ci := 12) (kf := 26) rfl (Nat.le_of_ble_eq_true rfl) (by decide) (by decide) rfl fl_X12_274 (Or.inl rfl) ?_
  refine r_if_ne (tgt := 105) dX12_partsAs_98 (by decide) (fun c_98 => ?_) (fun c_98 => ?_)
  · (try dsimp only [Gs_M] at c_98)
    refine r_iconst (v := 1) dX12_partsAs_105 (by decide) ?_
    refine r_goto (tgt := 110) dX12_partsAs_106 (by decide) ?_
    refine r_putI dX12_partsAs_110 (ci := 12) (kf := 26) rfl (Nat.le_of_ble_eq_true rfl) (by decide) (by decide) rfl fl_X12_274 (Or.inl rfl) rfl rfl rfl ?_
    rw [acS_p]
    refine r_aload_n dX12_partsAs_113 rfl rfl ?_
    refine r_getI dX12_partsAs_114 (ci := 12) (kf := 26) rfl (Nat.le_of_ble_eq_true rfl) (by decide) (by decide) rfl fl_X12_274 (Or.inl rfl) ?_
    refine r_if_eq (tgt := 124) dX12_partsAs_117 (by decide) (fun c_117 => ?_) (fun c_117 => ?_)
    · (try dsimp only [Gs_M] at c_117)
      exact absurd (show (1 : Int32) = 0 from c_117) (by decide)
    · (try dsimp only [Gs_M] at c_117)
      refine r_iconst (v := 0) dX12_partsAs_120 (by decide) ?_
      refine r_goto (tgt := 137) dX12_partsAs_121 (by decide) ?_
      refine r_iret dX12_partsAs_137 rfl (Nat.le_refl _) ?_
      (try dsimp only [Gs_M])
      have c_98 : ¬ A.2.2 = 0 := c_98
      have e : prt0 ko (M 55 (16 + 11 * ko + 1)) x A = (0, (stA 12 A).1, (stA 12 A).2.1, 1) := by rw [prt0, if_neg (fun z => c_98 z.1)]
      have h1 := congrArg (fun r : Int32 × aT => some (Value.int r.1)) e
      have h2 := congrArg (fun r : Int32 × aT => Gs (acS M r.2)) e
      exact ⟨h1.symm, h2.symm⟩
  · (try dsimp only [Gs_M] at c_98)
    refine r_iload_n dX12_partsAs_101 rfl rfl ?_
    refine r_if_ne (tgt := 109) dX12_partsAs_102 (by decide) (fun c_102 => ?_) (fun c_102 => ?_)
    · (try dsimp only [Gs_M] at c_102)
      refine r_iconst (v := 0) dX12_partsAs_109 (by decide) ?_
      refine r_putI dX12_partsAs_110 (ci := 12) (kf := 26) rfl (Nat.le_of_ble_eq_true rfl) (by decide) (by decide) rfl fl_X12_274 (Or.inl rfl) rfl rfl rfl ?_
      rw [acS_p]
      refine r_aload_n dX12_partsAs_113 rfl rfl ?_
      refine r_getI dX12_partsAs_114 (ci := 12) (kf := 26) rfl (Nat.le_of_ble_eq_true rfl) (by decide) (by decide) rfl fl_X12_274 (Or.inl rfl) ?_
      refine r_if_eq (tgt := 124) dX12_partsAs_117 (by decide) (fun c_117 => ?_) (fun c_117 => ?_)
      · (try dsimp only [Gs_M] at c_117)
        refine r_iload_n dX12_partsAs_124 rfl rfl ?_
        refine r_iconst (v := (-1)) dX12_partsAs_125 (by decide) ?_
        refine r_icmp_ne (tgt := 134) dX12_partsAs_126 (by decide) (fun c_126 => ?_) (fun c_126 => ?_)
        · (try dsimp only [Gs_M] at c_126)
          refine r_iload_n dX12_partsAs_134 rfl rfl ?_
          refine r_iload_n dX12_partsAs_135 rfl rfl ?_
          refine r_idiv dX12_partsAs_136 c_102 ?_
          refine r_iret dX12_partsAs_137 rfl (Nat.le_refl _) ?_
          (try dsimp only [Gs_M])
          have c_98 : A.2.2 = 0 := c_98
          have c_102 : ¬ (M 55 (16 + 11 * ko + 1)) - nI ko = 0 := c_102
          have c_126 : ¬ (M 55 (16 + 11 * ko + 1)) - nI ko = -1 := c_126
          have e : prt0 ko (M 55 (16 + 11 * ko + 1)) x A = (x / ((M 55 (16 + 11 * ko + 1)) - nI ko), (stA 12 A).1, (stA 12 A).2.1, 0) := by rw [prt0, if_pos ⟨c_98, c_102⟩, if_neg c_126]
          have h1 := congrArg (fun r : Int32 × aT => some (Value.int r.1)) e
          have h2 := congrArg (fun r : Int32 × aT => Gs (acS M r.2)) e
          exact ⟨h1.symm, h2.symm⟩
        · (try dsimp only [Gs_M] at c_126)
          refine r_iload_n dX12_partsAs_129 rfl rfl ?_
          refine r_ineg dX12_partsAs_130 ?_
          refine r_goto (tgt := 137) dX12_partsAs_131 (by decide) ?_
          refine r_iret dX12_partsAs_137 rfl (Nat.le_refl _) ?_
          (try dsimp only [Gs_M])
          have c_98 : A.2.2 = 0 := c_98
          have c_102 : ¬ (M 55 (16 + 11 * ko + 1)) - nI ko = 0 := c_102
          have c_126 : (M 55 (16 + 11 * ko + 1)) - nI ko = -1 := c_126
          have e : prt0 ko (M 55 (16 + 11 * ko + 1)) x A = (-x, (stA 12 A).1, (stA 12 A).2.1, 0) := by rw [prt0, if_pos ⟨c_98, c_102⟩, if_pos c_126]
          have h1 := congrArg (fun r : Int32 × aT => some (Value.int r.1)) e
          have h2 := congrArg (fun r : Int32 × aT => Gs (acS M r.2)) e
          exact ⟨h1.symm, h2.symm⟩
      · (try dsimp only [Gs_M] at c_117)
        exact absurd rfl c_117
    · (try dsimp only [Gs_M] at c_102)
      refine r_iconst (v := 1) dX12_partsAs_105 (by decide) ?_
      refine r_goto (tgt := 110) dX12_partsAs_106 (by decide) ?_
      refine r_putI dX12_partsAs_110 (ci := 12) (kf := 26) rfl (Nat.le_of_ble_eq_true rfl) (by decide) (by decide) rfl fl_X12_274 (Or.inl rfl) rfl rfl rfl ?_
      rw [acS_p]
      refine r_aload_n dX12_partsAs_113 rfl rfl ?_
      refine r_getI dX12_partsAs_114 (ci := 12) (kf := 26) rfl (Nat.le_of_ble_eq_true rfl) (by decide) (by decide) rfl fl_X12_274 (Or.inl rfl) ?_
      refine r_if_eq (tgt := 124) dX12_partsAs_117 (by decide) (fun c_117 => ?_) (fun c_117 => ?_)
      · (try dsimp only [Gs_M] at c_117)
        exact absurd (show (1 : Int32) = 0 from c_117) (by decide)
      · (try dsimp only [Gs_M] at c_117)
        refine r_iconst (v := 0) dX12_partsAs_120 (by decide) ?_
        refine r_goto (tgt := 137) dX12_partsAs_121 (by decide) ?_
        refine r_iret dX12_partsAs_137 rfl (Nat.le_refl _) ?_
        (try dsimp only [Gs_M])
        have c_98 : A.2.2 = 0 := c_98
        have c_102 : (M 55 (16 + 11 * ko + 1)) - nI ko = 0 := c_102
        have e : prt0 ko (M 55 (16 + 11 * ko + 1)) x A = (0, (stA 12 A).1, (stA 12 A).2.1, 1) := by rw [prt0, if_neg (fun z => z.2 c_102)]
        have h1 := congrArg (fun r : Int32 × aT => some (Value.int r.1)) e
        have h2 := congrArg (fun r : Int32 × aT => Gs (acS M r.2)) e
        exact ⟨h1.symm, h2.symm⟩
set_option maxRecDepth 20000 in
set_option maxHeartbeats 1000000 in
theorem s_parts_2_5 (g : pG) {M : Nat → Nat → Int32} {A : aT} (hA : A.2.1 ≤ 30) (ko : Nat) (hko : ko < 8) (eo : M 54 25 = nI ko) (x : Int32) : MS g mX12_partsAs 5 0 0 [.ref 54, .int 2, .int x] (Gs (acS M A)) (dI (prtK ko (M 55 (16 + 11 * ko + 1)) 2 x A).1 (Gs (acS M (prtK ko (M 55 (16 + 11 * ko + 1)) 2 x A).2))) := by
  refine MS.of pn_X12 (Nat.le_of_ble_eq_true rfl) ?_
  refine r_iload_n dX12_partsAs_0 rfl rfl ?_
  refine r_iconst (v := 3) dX12_partsAs_1 (by decide) ?_
  refine r_icmp_ne (tgt := 31) dX12_partsAs_2 (by decide) (fun _ => ?_) (fun c => absurd c (by decide))
  refine r_iload_n dX12_partsAs_31 rfl rfl ?_
  refine r_iconst (v := 5) dX12_partsAs_32 (by decide) ?_
  refine r_icmp_ne (tgt := 72) dX12_partsAs_33 (by decide) (fun _ => ?_) (fun c => absurd c (by decide))
  refine r_aload_n dX12_partsAs_72 rfl rfl ?_
  refine r_bipush (v := 12) dX12_partsAs_73 (by decide) ?_
  refine r_callV_dV (ci := 12) dX12_partsAs_75 (s_X12_starts g (A := A) hA 12) mf_X12_starts mi_X12_starts se_X12_X12_X12_starts ml_X12_259 rfl rfl (Nat.le_of_ble_eq_true rfl) rfl (by decide) rfl (Nat.le_of_ble_eq_true rfl) ⟨(Nat.le_of_ble_eq_true rfl), (Nat.le_of_ble_eq_true rfl)⟩ ⟨(Nat.le_of_ble_eq_true rfl), (Nat.le_of_ble_eq_true rfl)⟩ ?_
  refine r_aload_n dX12_partsAs_78 rfl rfl ?_
  refine r_aload_n dX12_partsAs_79 rfl rfl ?_
  refine r_getI dX12_partsAs_80 (ci := 12) (kf := 25) rfl (Nat.le_of_ble_eq_true rfl) (by decide) (by decide) rfl fl_X12_265 (Or.inl rfl) ?_
  rw [acS_own, eo]
  refine r_iconst (v := 1) dX12_partsAs_83 (by decide) ?_
  refine r_callV_dI (ci := 12) dX12_partsAs_84 (s_X12_get g (by exact ⟨rfl, rfl, rfl⟩) (ko) (1) (by omega) (by omega)) mf_X12_get mi_X12_get se_X12_X12_X12_get ml_X12_67 rfl rfl (Nat.le_of_ble_eq_true rfl) rfl (by decide) rfl (Nat.le_of_ble_eq_true rfl) ⟨(Nat.le_of_ble_eq_true rfl), (Nat.le_of_ble_eq_true rfl)⟩ ⟨(Nat.le_of_ble_eq_true rfl), (Nat.le_of_ble_eq_true rfl)⟩ ?_
  refine r_aload_n dX12_partsAs_87 rfl rfl ?_
  refine r_getI dX12_partsAs_88 (ci := 12) (kf := 25) rfl (Nat.le_of_ble_eq_true rfl) (by decide) (by decide) rfl fl_X12_265 (Or.inl rfl) ?_
  rw [acS_own, eo]
  refine r_isub dX12_partsAs_91 ?_
  refine r_istore_n dX12_partsAs_92 rfl (by decide) ?_
  refine r_aload_n dX12_partsAs_93 rfl rfl ?_
  refine r_aload_n dX12_partsAs_94 rfl rfl ?_
  refine r_getI dX12_partsAs_95 (ci := 12) (kf := 26) rfl (Nat.le_of_ble_eq_true rfl) (by decide) (by decide) rfl fl_X12_274 (Or.inl rfl) ?_
  refine r_if_ne (tgt := 105) dX12_partsAs_98 (by decide) (fun c_98 => ?_) (fun c_98 => ?_)
  · (try dsimp only [Gs_M] at c_98)
    refine r_iconst (v := 1) dX12_partsAs_105 (by decide) ?_
    refine r_goto (tgt := 110) dX12_partsAs_106 (by decide) ?_
    refine r_putI dX12_partsAs_110 (ci := 12) (kf := 26) rfl (Nat.le_of_ble_eq_true rfl) (by decide) (by decide) rfl fl_X12_274 (Or.inl rfl) rfl rfl rfl ?_
    rw [acS_p]
    refine r_aload_n dX12_partsAs_113 rfl rfl ?_
    refine r_getI dX12_partsAs_114 (ci := 12) (kf := 26) rfl (Nat.le_of_ble_eq_true rfl) (by decide) (by decide) rfl fl_X12_274 (Or.inl rfl) ?_
    refine r_if_eq (tgt := 124) dX12_partsAs_117 (by decide) (fun c_117 => ?_) (fun c_117 => ?_)
    · (try dsimp only [Gs_M] at c_117)
      exact absurd (show (1 : Int32) = 0 from c_117) (by decide)
    · (try dsimp only [Gs_M] at c_117)
      refine r_iconst (v := 0) dX12_partsAs_120 (by decide) ?_
      refine r_goto (tgt := 137) dX12_partsAs_121 (by decide) ?_
      refine r_iret dX12_partsAs_137 rfl (Nat.le_refl _) ?_
      (try dsimp only [Gs_M])
      have c_98 : ¬ A.2.2 = 0 := c_98
      have e : prt0 ko (M 55 (16 + 11 * ko + 1)) x A = (0, (stA 12 A).1, (stA 12 A).2.1, 1) := by rw [prt0, if_neg (fun z => c_98 z.1)]
      have h1 := congrArg (fun r : Int32 × aT => some (Value.int r.1)) e
      have h2 := congrArg (fun r : Int32 × aT => Gs (acS M r.2)) e
      exact ⟨h1.symm, h2.symm⟩
  · (try dsimp only [Gs_M] at c_98)
    refine r_iload_n dX12_partsAs_101 rfl rfl ?_
    refine r_if_ne (tgt := 109) dX12_partsAs_102 (by decide) (fun c_102 => ?_) (fun c_102 => ?_)
    · (try dsimp only [Gs_M] at c_102)
      refine r_iconst (v := 0) dX12_partsAs_109 (by decide) ?_
      refine r_putI dX12_partsAs_110 (ci := 12) (kf := 26) rfl (Nat.le_of_ble_eq_true rfl) (by decide) (by decide) rfl fl_X12_274 (Or.inl rfl) rfl rfl rfl ?_
      rw [acS_p]
      refine r_aload_n dX12_partsAs_113 rfl rfl ?_
      refine r_getI dX12_partsAs_114 (ci := 12) (kf := 26) rfl (Nat.le_of_ble_eq_true rfl) (by decide) (by decide) rfl fl_X12_274 (Or.inl rfl) ?_
      refine r_if_eq (tgt := 124) dX12_partsAs_117 (by decide) (fun c_117 => ?_) (fun c_117 => ?_)
      · (try dsimp only [Gs_M] at c_117)
        refine r_iload_n dX12_partsAs_124 rfl rfl ?_
        refine r_iconst (v := (-1)) dX12_partsAs_125 (by decide) ?_
        refine r_icmp_ne (tgt := 134) dX12_partsAs_126 (by decide) (fun c_126 => ?_) (fun c_126 => ?_)
        · (try dsimp only [Gs_M] at c_126)
          refine r_iload_n dX12_partsAs_134 rfl rfl ?_
          refine r_iload_n dX12_partsAs_135 rfl rfl ?_
          refine r_idiv dX12_partsAs_136 c_102 ?_
          refine r_iret dX12_partsAs_137 rfl (Nat.le_refl _) ?_
          (try dsimp only [Gs_M])
          have c_98 : A.2.2 = 0 := c_98
          have c_102 : ¬ (M 55 (16 + 11 * ko + 1)) - nI ko = 0 := c_102
          have c_126 : ¬ (M 55 (16 + 11 * ko + 1)) - nI ko = -1 := c_126
          have e : prt0 ko (M 55 (16 + 11 * ko + 1)) x A = (x / ((M 55 (16 + 11 * ko + 1)) - nI ko), (stA 12 A).1, (stA 12 A).2.1, 0) := by rw [prt0, if_pos ⟨c_98, c_102⟩, if_neg c_126]
          have h1 := congrArg (fun r : Int32 × aT => some (Value.int r.1)) e
          have h2 := congrArg (fun r : Int32 × aT => Gs (acS M r.2)) e
          exact ⟨h1.symm, h2.symm⟩
        · (try dsimp only [Gs_M] at c_126)
          refine r_iload_n dX12_partsAs_129 rfl rfl ?_
          refine r_ineg dX12_partsAs_130 ?_
          refine r_goto (tgt := 137) dX12_partsAs_131 (by decide) ?_
          refine r_iret dX12_partsAs_137 rfl (Nat.le_refl _) ?_
          (try dsimp only [Gs_M])
          have c_98 : A.2.2 = 0 := c_98
          have c_102 : ¬ (M 55 (16 + 11 * ko + 1)) - nI ko = 0 := c_102
          have c_126 : (M 55 (16 + 11 * ko + 1)) - nI ko = -1 := c_126
          have e : prt0 ko (M 55 (16 + 11 * ko + 1)) x A = (-x, (stA 12 A).1, (stA 12 A).2.1, 0) := by rw [prt0, if_pos ⟨c_98, c_102⟩, if_pos c_126]
          have h1 := congrArg (fun r : Int32 × aT => some (Value.int r.1)) e
          have h2 := congrArg (fun r : Int32 × aT => Gs (acS M r.2)) e
          exact ⟨h1.symm, h2.symm⟩
      · (try dsimp only [Gs_M] at c_117)
        exact absurd rfl c_117
    · (try dsimp only [Gs_M] at c_102)
      refine r_iconst (v := 1) dX12_partsAs_105 (by decide) ?_
      refine r_goto (tgt := 110) dX12_partsAs_106 (by decide) ?_
      refine r_putI dX12_partsAs_110 (ci := 12) (kf := 26) rfl (Nat.le_of_ble_eq_true rfl) (by decide) (by decide) rfl fl_X12_274 (Or.inl rfl) rfl rfl rfl ?_
      rw [acS_p]
      refine r_aload_n dX12_partsAs_113 rfl rfl ?_
      refine r_getI dX12_partsAs_114 (ci := 12) (kf := 26) rfl (Nat.le_of_ble_eq_true rfl) (by decide) (by decide) rfl fl_X12_274 (Or.inl rfl) ?_
      refine r_if_eq (tgt := 124) dX12_partsAs_117 (by decide) (fun c_117 => ?_) (fun c_117 => ?_)
      · (try dsimp only [Gs_M] at c_117)
        exact absurd (show (1 : Int32) = 0 from c_117) (by decide)
      · (try dsimp only [Gs_M] at c_117)
        refine r_iconst (v := 0) dX12_partsAs_120 (by decide) ?_
        refine r_goto (tgt := 137) dX12_partsAs_121 (by decide) ?_
        refine r_iret dX12_partsAs_137 rfl (Nat.le_refl _) ?_
        (try dsimp only [Gs_M])
        have c_98 : A.2.2 = 0 := c_98
        have c_102 : (M 55 (16 + 11 * ko + 1)) - nI ko = 0 := c_102
        have e : prt0 ko (M 55 (16 + 11 * ko + 1)) x A = (0, (stA 12 A).1, (stA 12 A).2.1, 1) := by rw [prt0, if_neg (fun z => z.2 c_102)]
        have h1 := congrArg (fun r : Int32 × aT => some (Value.int r.1)) e
        have h2 := congrArg (fun r : Int32 × aT => Gs (acS M r.2)) e
        exact ⟨h1.symm, h2.symm⟩
set_option maxRecDepth 20000 in
set_option maxHeartbeats 1000000 in
theorem s_parts_3_5 (g : pG) {M : Nat → Nat → Int32} {A : aT} (hA : A.2.1 ≤ 30) (ko : Nat) (hko : ko < 8) (eo : M 54 25 = nI ko) (x : Int32) : MS g mX12_partsAs 5 0 0 [.ref 54, .int 3, .int x] (Gs (acS M A)) (dI (prtK ko (M 55 (16 + 11 * ko + 1)) 3 x A).1 (Gs (acS M (prtK ko (M 55 (16 + 11 * ko + 1)) 3 x A).2))) := by
  refine MS.of pn_X12 (Nat.le_of_ble_eq_true rfl) ?_
  refine r_iload_n dX12_partsAs_0 rfl rfl ?_
  refine r_iconst (v := 3) dX12_partsAs_1 (by decide) ?_
  refine r_icmp_ne (tgt := 31) dX12_partsAs_2 (by decide) (fun c => absurd c (by decide)) (fun _ => ?_)
  refine r_aload_n dX12_partsAs_5 rfl rfl ?_
  refine r_bipush (v := 50) dX12_partsAs_6 (by decide) ?_
  refine r_callV_dV (ci := 12) dX12_partsAs_8 (s_X12_starts g (A := A) hA 50) mf_X12_starts mi_X12_starts se_X12_X12_X12_starts ml_X12_259 rfl rfl (Nat.le_of_ble_eq_true rfl) rfl (by decide) rfl (Nat.le_of_ble_eq_true rfl) ⟨(Nat.le_of_ble_eq_true rfl), (Nat.le_of_ble_eq_true rfl)⟩ ⟨(Nat.le_of_ble_eq_true rfl), (Nat.le_of_ble_eq_true rfl)⟩ ?_
  refine r_aload_n dX12_partsAs_11 rfl rfl ?_
  refine r_iconst (v := 1) dX12_partsAs_12 (by decide) ?_
  refine r_iload_n dX12_partsAs_13 rfl rfl ?_
  refine r_bipush (v := 7) dX12_partsAs_14 (by decide) ?_
  refine r_isub dX12_partsAs_16 ?_
  refine r_callV_dI (ci := 12) dX12_partsAs_17 (s_parts_1_2 g (stA_le hA) ko hko eo _) mf_X12_partsAs mi_X12_partsAs se_X12_X12_X12_partsAs ml_X12_271 rfl rfl (Nat.le_of_ble_eq_true rfl) rfl (by decide) rfl (Nat.le_of_ble_eq_true rfl) ⟨(Nat.le_of_ble_eq_true rfl), (Nat.le_of_ble_eq_true rfl)⟩ ⟨(Nat.le_of_ble_eq_true rfl), (Nat.le_of_ble_eq_true rfl)⟩ ?_
  refine r_aload_n dX12_partsAs_20 rfl rfl ?_
  refine r_aload_n dX12_partsAs_21 rfl rfl ?_
  refine r_getI dX12_partsAs_22 (ci := 12) (kf := 25) rfl (Nat.le_of_ble_eq_true rfl) (by decide) (by decide) rfl fl_X12_265 (Or.inl rfl) ?_
  rw [acS_own, eo]
  refine r_iconst (v := 1) dX12_partsAs_25 (by decide) ?_
  refine r_callV_dI (ci := 12) dX12_partsAs_26 (s_X12_get g (by exact ⟨rfl, rfl, rfl⟩) (ko) (1) (by omega) (by omega)) mf_X12_get mi_X12_get se_X12_X12_X12_get ml_X12_67 rfl rfl (Nat.le_of_ble_eq_true rfl) rfl (by decide) rfl (Nat.le_of_ble_eq_true rfl) ⟨(Nat.le_of_ble_eq_true rfl), (Nat.le_of_ble_eq_true rfl)⟩ ⟨(Nat.le_of_ble_eq_true rfl), (Nat.le_of_ble_eq_true rfl)⟩ ?_
  refine r_isub dX12_partsAs_29 ?_
  refine r_iret dX12_partsAs_30 rfl (Nat.le_refl _) ?_
  (try dsimp only [Gs_M])
  exact ⟨rfl, rfl⟩
set_option maxRecDepth 20000 in
set_option maxHeartbeats 1000000 in
theorem s_parts_4_5 (g : pG) {M : Nat → Nat → Int32} {A : aT} (hA : A.2.1 ≤ 30) (ko : Nat) (hko : ko < 8) (eo : M 54 25 = nI ko) (x : Int32) : MS g mX12_partsAs 5 0 0 [.ref 54, .int 4, .int x] (Gs (acS M A)) (dI (prtK ko (M 55 (16 + 11 * ko + 1)) 4 x A).1 (Gs (acS M (prtK ko (M 55 (16 + 11 * ko + 1)) 4 x A).2))) := by
  refine MS.of pn_X12 (Nat.le_of_ble_eq_true rfl) ?_
  refine r_iload_n dX12_partsAs_0 rfl rfl ?_
  refine r_iconst (v := 3) dX12_partsAs_1 (by decide) ?_
  refine r_icmp_ne (tgt := 31) dX12_partsAs_2 (by decide) (fun _ => ?_) (fun c => absurd c (by decide))
  refine r_iload_n dX12_partsAs_31 rfl rfl ?_
  refine r_iconst (v := 5) dX12_partsAs_32 (by decide) ?_
  refine r_icmp_ne (tgt := 72) dX12_partsAs_33 (by decide) (fun _ => ?_) (fun c => absurd c (by decide))
  refine r_aload_n dX12_partsAs_72 rfl rfl ?_
  refine r_bipush (v := 12) dX12_partsAs_73 (by decide) ?_
  refine r_callV_dV (ci := 12) dX12_partsAs_75 (s_X12_starts g (A := A) hA 12) mf_X12_starts mi_X12_starts se_X12_X12_X12_starts ml_X12_259 rfl rfl (Nat.le_of_ble_eq_true rfl) rfl (by decide) rfl (Nat.le_of_ble_eq_true rfl) ⟨(Nat.le_of_ble_eq_true rfl), (Nat.le_of_ble_eq_true rfl)⟩ ⟨(Nat.le_of_ble_eq_true rfl), (Nat.le_of_ble_eq_true rfl)⟩ ?_
  refine r_aload_n dX12_partsAs_78 rfl rfl ?_
  refine r_aload_n dX12_partsAs_79 rfl rfl ?_
  refine r_getI dX12_partsAs_80 (ci := 12) (kf := 25) rfl (Nat.le_of_ble_eq_true rfl) (by decide) (by decide) rfl fl_X12_265 (Or.inl rfl) ?_
  rw [acS_own, eo]
  refine r_iconst (v := 1) dX12_partsAs_83 (by decide) ?_
  refine r_callV_dI (ci := 12) dX12_partsAs_84 (s_X12_get g (by exact ⟨rfl, rfl, rfl⟩) (ko) (1) (by omega) (by omega)) mf_X12_get mi_X12_get se_X12_X12_X12_get ml_X12_67 rfl rfl (Nat.le_of_ble_eq_true rfl) rfl (by decide) rfl (Nat.le_of_ble_eq_true rfl) ⟨(Nat.le_of_ble_eq_true rfl), (Nat.le_of_ble_eq_true rfl)⟩ ⟨(Nat.le_of_ble_eq_true rfl), (Nat.le_of_ble_eq_true rfl)⟩ ?_
  refine r_aload_n dX12_partsAs_87 rfl rfl ?_
  refine r_getI dX12_partsAs_88 (ci := 12) (kf := 25) rfl (Nat.le_of_ble_eq_true rfl) (by decide) (by decide) rfl fl_X12_265 (Or.inl rfl) ?_
  rw [acS_own, eo]
  refine r_isub dX12_partsAs_91 ?_
  refine r_istore_n dX12_partsAs_92 rfl (by decide) ?_
  refine r_aload_n dX12_partsAs_93 rfl rfl ?_
  refine r_aload_n dX12_partsAs_94 rfl rfl ?_
  refine r_getI dX12_partsAs_95 (ci := 12) (kf := 26) rfl (Nat.le_of_ble_eq_true rfl) (by decide) (by decide) rfl fl_X12_274 (Or.inl rfl) ?_
  refine r_if_ne (tgt := 105) dX12_partsAs_98 (by decide) (fun c_98 => ?_) (fun c_98 => ?_)
  · (try dsimp only [Gs_M] at c_98)
    refine r_iconst (v := 1) dX12_partsAs_105 (by decide) ?_
    refine r_goto (tgt := 110) dX12_partsAs_106 (by decide) ?_
    refine r_putI dX12_partsAs_110 (ci := 12) (kf := 26) rfl (Nat.le_of_ble_eq_true rfl) (by decide) (by decide) rfl fl_X12_274 (Or.inl rfl) rfl rfl rfl ?_
    rw [acS_p]
    refine r_aload_n dX12_partsAs_113 rfl rfl ?_
    refine r_getI dX12_partsAs_114 (ci := 12) (kf := 26) rfl (Nat.le_of_ble_eq_true rfl) (by decide) (by decide) rfl fl_X12_274 (Or.inl rfl) ?_
    refine r_if_eq (tgt := 124) dX12_partsAs_117 (by decide) (fun c_117 => ?_) (fun c_117 => ?_)
    · (try dsimp only [Gs_M] at c_117)
      exact absurd (show (1 : Int32) = 0 from c_117) (by decide)
    · (try dsimp only [Gs_M] at c_117)
      refine r_iconst (v := 0) dX12_partsAs_120 (by decide) ?_
      refine r_goto (tgt := 137) dX12_partsAs_121 (by decide) ?_
      refine r_iret dX12_partsAs_137 rfl (Nat.le_refl _) ?_
      (try dsimp only [Gs_M])
      have c_98 : ¬ A.2.2 = 0 := c_98
      have e : prt0 ko (M 55 (16 + 11 * ko + 1)) x A = (0, (stA 12 A).1, (stA 12 A).2.1, 1) := by rw [prt0, if_neg (fun z => c_98 z.1)]
      have h1 := congrArg (fun r : Int32 × aT => some (Value.int r.1)) e
      have h2 := congrArg (fun r : Int32 × aT => Gs (acS M r.2)) e
      exact ⟨h1.symm, h2.symm⟩
  · (try dsimp only [Gs_M] at c_98)
    refine r_iload_n dX12_partsAs_101 rfl rfl ?_
    refine r_if_ne (tgt := 109) dX12_partsAs_102 (by decide) (fun c_102 => ?_) (fun c_102 => ?_)
    · (try dsimp only [Gs_M] at c_102)
      refine r_iconst (v := 0) dX12_partsAs_109 (by decide) ?_
      refine r_putI dX12_partsAs_110 (ci := 12) (kf := 26) rfl (Nat.le_of_ble_eq_true rfl) (by decide) (by decide) rfl fl_X12_274 (Or.inl rfl) rfl rfl rfl ?_
      rw [acS_p]
      refine r_aload_n dX12_partsAs_113 rfl rfl ?_
      refine r_getI dX12_partsAs_114 (ci := 12) (kf := 26) rfl (Nat.le_of_ble_eq_true rfl) (by decide) (by decide) rfl fl_X12_274 (Or.inl rfl) ?_
      refine r_if_eq (tgt := 124) dX12_partsAs_117 (by decide) (fun c_117 => ?_) (fun c_117 => ?_)
      · (try dsimp only [Gs_M] at c_117)
        refine r_iload_n dX12_partsAs_124 rfl rfl ?_
        refine r_iconst (v := (-1)) dX12_partsAs_125 (by decide) ?_
        refine r_icmp_ne (tgt := 134) dX12_partsAs_126 (by decide) (fun c_126 => ?_) (fun c_126 => ?_)
        · (try dsimp only [Gs_M] at c_126)
          refine r_iload_n dX12_partsAs_134 rfl rfl ?_
          refine r_iload_n dX12_partsAs_135 rfl rfl ?_
          refine r_idiv dX12_partsAs_136 c_102 ?_
          refine r_iret dX12_partsAs_137 rfl (Nat.le_refl _) ?_
          (try dsimp only [Gs_M])
          have c_98 : A.2.2 = 0 := c_98
          have c_102 : ¬ (M 55 (16 + 11 * ko + 1)) - nI ko = 0 := c_102
          have c_126 : ¬ (M 55 (16 + 11 * ko + 1)) - nI ko = -1 := c_126
          have e : prt0 ko (M 55 (16 + 11 * ko + 1)) x A = (x / ((M 55 (16 + 11 * ko + 1)) - nI ko), (stA 12 A).1, (stA 12 A).2.1, 0) := by rw [prt0, if_pos ⟨c_98, c_102⟩, if_neg c_126]
          have h1 := congrArg (fun r : Int32 × aT => some (Value.int r.1)) e
          have h2 := congrArg (fun r : Int32 × aT => Gs (acS M r.2)) e
          exact ⟨h1.symm, h2.symm⟩
        · (try dsimp only [Gs_M] at c_126)
          refine r_iload_n dX12_partsAs_129 rfl rfl ?_
          refine r_ineg dX12_partsAs_130 ?_
          refine r_goto (tgt := 137) dX12_partsAs_131 (by decide) ?_
          refine r_iret dX12_partsAs_137 rfl (Nat.le_refl _) ?_
          (try dsimp only [Gs_M])
          have c_98 : A.2.2 = 0 := c_98
          have c_102 : ¬ (M 55 (16 + 11 * ko + 1)) - nI ko = 0 := c_102
          have c_126 : (M 55 (16 + 11 * ko + 1)) - nI ko = -1 := c_126
          have e : prt0 ko (M 55 (16 + 11 * ko + 1)) x A = (-x, (stA 12 A).1, (stA 12 A).2.1, 0) := by rw [prt0, if_pos ⟨c_98, c_102⟩, if_pos c_126]
          have h1 := congrArg (fun r : Int32 × aT => some (Value.int r.1)) e
          have h2 := congrArg (fun r : Int32 × aT => Gs (acS M r.2)) e
          exact ⟨h1.symm, h2.symm⟩
      · (try dsimp only [Gs_M] at c_117)
        exact absurd rfl c_117
    · (try dsimp only [Gs_M] at c_102)
      refine r_iconst (v := 1) dX12_partsAs_105 (by decide) ?_
      refine r_goto (tgt := 110) dX12_partsAs_106 (by decide) ?_
      refine r_putI dX12_partsAs_110 (ci := 12) (kf := 26) rfl (Nat.le_of_ble_eq_true rfl) (by decide) (by decide) rfl fl_X12_274 (Or.inl rfl) rfl rfl rfl ?_
      rw [acS_p]
      refine r_aload_n dX12_partsAs_113 rfl rfl ?_
      refine r_getI dX12_partsAs_114 (ci := 12) (kf := 26) rfl (Nat.le_of_ble_eq_true rfl) (by decide) (by decide) rfl fl_X12_274 (Or.inl rfl) ?_
      refine r_if_eq (tgt := 124) dX12_partsAs_117 (by decide) (fun c_117 => ?_) (fun c_117 => ?_)
      · (try dsimp only [Gs_M] at c_117)
        exact absurd (show (1 : Int32) = 0 from c_117) (by decide)
      · (try dsimp only [Gs_M] at c_117)
        refine r_iconst (v := 0) dX12_partsAs_120 (by decide) ?_
        refine r_goto (tgt := 137) dX12_partsAs_121 (by decide) ?_
        refine r_iret dX12_partsAs_137 rfl (Nat.le_refl _) ?_
        (try dsimp only [Gs_M])
        have c_98 : A.2.2 = 0 := c_98
        have c_102 : (M 55 (16 + 11 * ko + 1)) - nI ko = 0 := c_102
        have e : prt0 ko (M 55 (16 + 11 * ko + 1)) x A = (0, (stA 12 A).1, (stA 12 A).2.1, 1) := by rw [prt0, if_neg (fun z => z.2 c_102)]
        have h1 := congrArg (fun r : Int32 × aT => some (Value.int r.1)) e
        have h2 := congrArg (fun r : Int32 × aT => Gs (acS M r.2)) e
        exact ⟨h1.symm, h2.symm⟩
set_option maxRecDepth 20000 in
set_option maxHeartbeats 1000000 in
theorem s_parts_5_5 (g : pG) {M : Nat → Nat → Int32} {A : aT} (hA : A.2.1 ≤ 30) (ko : Nat) (hko : ko < 8) (eo : M 54 25 = nI ko) (x : Int32) : MS g mX12_partsAs 5 0 0 [.ref 54, .int 5, .int x] (Gs (acS M A)) (dI (prtK ko (M 55 (16 + 11 * ko + 1)) 5 x A).1 (Gs (acS M (prtK ko (M 55 (16 + 11 * ko + 1)) 5 x A).2))) := by
  refine MS.of pn_X12 (Nat.le_of_ble_eq_true rfl) ?_
  refine r_iload_n dX12_partsAs_0 rfl rfl ?_
  refine r_iconst (v := 3) dX12_partsAs_1 (by decide) ?_
  refine r_icmp_ne (tgt := 31) dX12_partsAs_2 (by decide) (fun _ => ?_) (fun c => absurd c (by decide))
  refine r_iload_n dX12_partsAs_31 rfl rfl ?_
  refine r_iconst (v := 5) dX12_partsAs_32 (by decide) ?_
  refine r_icmp_ne (tgt := 72) dX12_partsAs_33 (by decide) (fun c => absurd c (by decide)) (fun _ => ?_)
  refine r_aload_n dX12_partsAs_36 rfl rfl ?_
  refine r_bipush (v := 61) dX12_partsAs_37 (by decide) ?_
  refine r_callV_dV (ci := 12) dX12_partsAs_39 (s_X12_starts g (A := A) hA 61) mf_X12_starts mi_X12_starts se_X12_X12_X12_starts ml_X12_259 rfl rfl (Nat.le_of_ble_eq_true rfl) rfl (by decide) rfl (Nat.le_of_ble_eq_true rfl) ⟨(Nat.le_of_ble_eq_true rfl), (Nat.le_of_ble_eq_true rfl)⟩ ⟨(Nat.le_of_ble_eq_true rfl), (Nat.le_of_ble_eq_true rfl)⟩ ?_
  refine r_aload_n dX12_partsAs_42 rfl rfl ?_
  refine r_iconst (v := 0) dX12_partsAs_43 (by decide) ?_
  refine r_iload_n dX12_partsAs_44 rfl rfl ?_
  refine r_callV_dI (ci := 12) dX12_partsAs_45 (s_parts_0_2 g (stA_le hA) ko hko eo _) mf_X12_partsAs mi_X12_partsAs se_X12_X12_X12_partsAs ml_X12_271 rfl rfl (Nat.le_of_ble_eq_true rfl) rfl (by decide) rfl (Nat.le_of_ble_eq_true rfl) ⟨(Nat.le_of_ble_eq_true rfl), (Nat.le_of_ble_eq_true rfl)⟩ ⟨(Nat.le_of_ble_eq_true rfl), (Nat.le_of_ble_eq_true rfl)⟩ ?_
  refine r_istore_n dX12_partsAs_48 rfl (by decide) ?_
  refine r_aload_n dX12_partsAs_49 rfl rfl ?_
  refine r_getI dX12_partsAs_50 (ci := 12) (kf := 26) rfl (Nat.le_of_ble_eq_true rfl) (by decide) (by decide) rfl fl_X12_274 (Or.inl rfl) ?_
  refine r_if_eq (tgt := 60) dX12_partsAs_53 (by decide) (fun c_53 => ?_) (fun c_53 => ?_)
  · (try dsimp only [Gs_M] at c_53)
    refine r_iload_n dX12_partsAs_60 rfl rfl ?_
    refine r_aload_n dX12_partsAs_61 rfl rfl ?_
    refine r_iconst (v := 5) dX12_partsAs_62 (by decide) ?_
    refine r_aload_n dX12_partsAs_63 rfl rfl ?_
    refine r_getI dX12_partsAs_64 (ci := 12) (kf := 25) rfl (Nat.le_of_ble_eq_true rfl) (by decide) (by decide) rfl fl_X12_265 (Or.inl rfl) ?_
    rw [acS_own, eo]
    refine r_callV_dI (ci := 12) dX12_partsAs_67 (s_bows_5_4 g (prtK_le (stA_le hA)) ko hko eo _) mf_X12_bowsAs mi_X12_bowsAs se_X12_X12_X12_bowsAs ml_X12_262 rfl rfl (Nat.le_of_ble_eq_true rfl) rfl (by decide) rfl (Nat.le_of_ble_eq_true rfl) ⟨(Nat.le_of_ble_eq_true rfl), (Nat.le_of_ble_eq_true rfl)⟩ ⟨(Nat.le_of_ble_eq_true rfl), (Nat.le_of_ble_eq_true rfl)⟩ ?_
    refine r_imul dX12_partsAs_70 ?_
    refine r_iret dX12_partsAs_71 rfl (Nat.le_refl _) ?_
    (try dsimp only [Gs_M])
    have e := (prtK_5 (ko := ko) (o1 := (M 55 (16 + 11 * ko + 1))) (x := x) (A := A)).trans (if_pos c_53)
    have h1 := congrArg (fun r : Int32 × aT => some (Value.int r.1)) e
    have h2 := congrArg (fun r : Int32 × aT => Gs (acS M r.2)) e
    exact ⟨h1.symm, h2.symm⟩
  · (try dsimp only [Gs_M] at c_53)
    refine r_iconst (v := 0) dX12_partsAs_56 (by decide) ?_
    refine r_goto (tgt := 71) dX12_partsAs_57 (by decide) ?_
    refine r_iret dX12_partsAs_71 rfl (Nat.le_refl _) ?_
    (try dsimp only [Gs_M])
    have e := (prtK_5 (ko := ko) (o1 := (M 55 (16 + 11 * ko + 1))) (x := x) (A := A)).trans (if_neg c_53)
    have h1 := congrArg (fun r : Int32 × aT => some (Value.int r.1)) e
    have h2 := congrArg (fun r : Int32 × aT => Gs (acS M r.2)) e
    exact ⟨h1.symm, h2.symm⟩
theorem s_partsC (g : pG) {M : Nat → Nat → Int32} {A : aT} (hA : A.2.1 ≤ 30) (ko : Nat) (hko : ko < 8) (eo : M 54 25 = nI ko) (k : Nat) (hk : k ≤ 5) (x : Int32) : MS g mX12_partsAs 5 0 0 [.ref 54, .int (nI k), .int x] (Gs (acS M A)) (dI (prtK ko (M 55 (16 + 11 * ko + 1)) k x A).1 (Gs (acS M (prtK ko (M 55 (16 + 11 * ko + 1)) k x A).2))) := by
  rcases (by omega : k = 0 ∨ k = 1 ∨ k = 2 ∨ k = 3 ∨ k = 4 ∨ k = 5) with rfl | rfl | rfl | rfl | rfl | rfl
  · exact s_parts_0_5 g hA ko hko eo x
  · exact s_parts_1_5 g hA ko hko eo x
  · exact s_parts_2_5 g hA ko hko eo x
  · exact s_parts_3_5 g hA ko hko eo x
  · exact s_parts_4_5 g hA ko hko eo x
  · exact s_parts_5_5 g hA ko hko eo x
set_option maxRecDepth 20000 in
set_option maxHeartbeats 1000000 in
theorem s_moves_0_7 (g : pG) {M : Nat → Nat → Int32} {A : aT} (hA : A.2.1 ≤ 30) (ko : Nat) (hko : ko < 8) (eo : M 54 25 = nI ko) (kd : Nat) (hkd : kd ≤ 5) (ek : M 55 (16 + 11 * ko + 0) = nI kd) (x : Int32) : MS g mX12_movesAs 7 0 0 [.ref 54, .int 0, .int x] (Gs (acS M A)) (dI (movK ko kd (M 55 (16 + 11 * ko + 1)) 0 x A).1 (Gs (acS M (movK ko kd (M 55 (16 + 11 * ko + 1)) 0 x A).2))) := by
  refine MS.of pn_X12 (Nat.le_of_ble_eq_true rfl) ?_
  refine r_iload_n dX12_movesAs_0 rfl rfl ?_
  refine r_iconst (v := 2) dX12_movesAs_1 (by decide) ?_
  refine r_icmp_eq (tgt := 10) dX12_movesAs_2 (by decide) (fun c => absurd c (by decide)) (fun _ => ?_)
  refine r_iload_n dX12_movesAs_5 rfl rfl ?_
  refine r_iconst (v := 4) dX12_movesAs_6 (by decide) ?_
  refine r_icmp_ne (tgt := 43) dX12_movesAs_7 (by decide) (fun _ => ?_) (fun c => absurd c (by decide))
  refine r_iload_n dX12_movesAs_43 rfl rfl ?_
  refine r_iconst (v := 5) dX12_movesAs_44 (by decide) ?_
  refine r_icmp_ne (tgt := 63) dX12_movesAs_45 (by decide) (fun _ => ?_) (fun c => absurd c (by decide))
  refine r_aload_n dX12_movesAs_63 rfl rfl ?_
  refine r_bipush (v := 13) dX12_movesAs_64 (by decide) ?_
  refine r_callV_dV (ci := 12) dX12_movesAs_66 (s_X12_starts g (A := A) hA 13) mf_X12_starts mi_X12_starts se_X12_X12_X12_starts ml_X12_259 rfl rfl (Nat.le_of_ble_eq_true rfl) rfl (by decide) rfl (Nat.le_of_ble_eq_true rfl) ⟨(Nat.le_of_ble_eq_true rfl), (Nat.le_of_ble_eq_true rfl)⟩ ⟨(Nat.le_of_ble_eq_true rfl), (Nat.le_of_ble_eq_true rfl)⟩ ?_
  refine r_aload_n dX12_movesAs_69 rfl rfl ?_
  refine r_aload_n dX12_movesAs_70 rfl rfl ?_
  refine r_aload_n dX12_movesAs_71 rfl rfl ?_
  refine r_getI dX12_movesAs_72 (ci := 12) (kf := 25) rfl (Nat.le_of_ble_eq_true rfl) (by decide) (by decide) rfl fl_X12_265 (Or.inl rfl) ?_
  rw [acS_own, eo]
  refine r_iconst (v := 0) dX12_movesAs_75 (by decide) ?_
  refine r_callV_dI (ci := 12) dX12_movesAs_76 (s_X12_get g (by exact ⟨rfl, rfl, rfl⟩) (ko) (0) (by omega) (by omega)) mf_X12_get mi_X12_get se_X12_X12_X12_get ml_X12_67 rfl rfl (Nat.le_of_ble_eq_true rfl) rfl (by decide) rfl (Nat.le_of_ble_eq_true rfl) ⟨(Nat.le_of_ble_eq_true rfl), (Nat.le_of_ble_eq_true rfl)⟩ ⟨(Nat.le_of_ble_eq_true rfl), (Nat.le_of_ble_eq_true rfl)⟩ ?_
  rw [acS_55, ek]
  refine r_iload_n dX12_movesAs_79 rfl rfl ?_
  refine r_callV_dI (ci := 12) dX12_movesAs_80 (s_singsC g (stA_le hA) ko hko eo kd hkd ek kd hkd _) mf_X12_singsAs mi_X12_singsAs se_X12_X12_X12_singsAs ml_X12_268 rfl rfl (Nat.le_of_ble_eq_true rfl) rfl (by decide) rfl (Nat.le_of_ble_eq_true rfl) ⟨(Nat.le_of_ble_eq_true rfl), (Nat.le_of_ble_eq_true rfl)⟩ ⟨(Nat.le_of_ble_eq_true rfl), (Nat.le_of_ble_eq_true rfl)⟩ ?_
  refine r_sipush (v := 220) dX12_movesAs_83 (by decide) ?_
  refine r_ixor dX12_movesAs_86 ?_
  refine r_iret dX12_movesAs_87 rfl (Nat.le_refl _) ?_
  (try dsimp only [Gs_M])
  exact ⟨rfl, rfl⟩
set_option maxRecDepth 20000 in
set_option maxHeartbeats 1000000 in
theorem s_moves_0_8 (g : pG) {M : Nat → Nat → Int32} {A : aT} (hA : A.2.1 ≤ 30) (ko : Nat) (hko : ko < 8) (eo : M 54 25 = nI ko) (kd : Nat) (hkd : kd ≤ 5) (ek : M 55 (16 + 11 * ko + 0) = nI kd) (x : Int32) : MS g mX12_movesAs 8 0 0 [.ref 54, .int 0, .int x] (Gs (acS M A)) (dI (movK ko kd (M 55 (16 + 11 * ko + 1)) 0 x A).1 (Gs (acS M (movK ko kd (M 55 (16 + 11 * ko + 1)) 0 x A).2))) := by
  refine MS.of pn_X12 (Nat.le_of_ble_eq_true rfl) ?_
  refine r_iload_n dX12_movesAs_0 rfl rfl ?_
  refine r_iconst (v := 2) dX12_movesAs_1 (by decide) ?_
  refine r_icmp_eq (tgt := 10) dX12_movesAs_2 (by decide) (fun c => absurd c (by decide)) (fun _ => ?_)
  refine r_iload_n dX12_movesAs_5 rfl rfl ?_
  refine r_iconst (v := 4) dX12_movesAs_6 (by decide) ?_
  refine r_icmp_ne (tgt := 43) dX12_movesAs_7 (by decide) (fun _ => ?_) (fun c => absurd c (by decide))
  refine r_iload_n dX12_movesAs_43 rfl rfl ?_
  refine r_iconst (v := 5) dX12_movesAs_44 (by decide) ?_
  refine r_icmp_ne (tgt := 63) dX12_movesAs_45 (by decide) (fun _ => ?_) (fun c => absurd c (by decide))
  refine r_aload_n dX12_movesAs_63 rfl rfl ?_
  refine r_bipush (v := 13) dX12_movesAs_64 (by decide) ?_
  refine r_callV_dV (ci := 12) dX12_movesAs_66 (s_X12_starts g (A := A) hA 13) mf_X12_starts mi_X12_starts se_X12_X12_X12_starts ml_X12_259 rfl rfl (Nat.le_of_ble_eq_true rfl) rfl (by decide) rfl (Nat.le_of_ble_eq_true rfl) ⟨(Nat.le_of_ble_eq_true rfl), (Nat.le_of_ble_eq_true rfl)⟩ ⟨(Nat.le_of_ble_eq_true rfl), (Nat.le_of_ble_eq_true rfl)⟩ ?_
  refine r_aload_n dX12_movesAs_69 rfl rfl ?_
  refine r_aload_n dX12_movesAs_70 rfl rfl ?_
  refine r_aload_n dX12_movesAs_71 rfl rfl ?_
  refine r_getI dX12_movesAs_72 (ci := 12) (kf := 25) rfl (Nat.le_of_ble_eq_true rfl) (by decide) (by decide) rfl fl_X12_265 (Or.inl rfl) ?_
  rw [acS_own, eo]
  refine r_iconst (v := 0) dX12_movesAs_75 (by decide) ?_
  refine r_callV_dI (ci := 12) dX12_movesAs_76 (s_X12_get g (by exact ⟨rfl, rfl, rfl⟩) (ko) (0) (by omega) (by omega)) mf_X12_get mi_X12_get se_X12_X12_X12_get ml_X12_67 rfl rfl (Nat.le_of_ble_eq_true rfl) rfl (by decide) rfl (Nat.le_of_ble_eq_true rfl) ⟨(Nat.le_of_ble_eq_true rfl), (Nat.le_of_ble_eq_true rfl)⟩ ⟨(Nat.le_of_ble_eq_true rfl), (Nat.le_of_ble_eq_true rfl)⟩ ?_
  rw [acS_55, ek]
  refine r_iload_n dX12_movesAs_79 rfl rfl ?_
  refine r_callV_dI (ci := 12) dX12_movesAs_80 (s_singsC g (stA_le hA) ko hko eo kd hkd ek kd hkd _) mf_X12_singsAs mi_X12_singsAs se_X12_X12_X12_singsAs ml_X12_268 rfl rfl (Nat.le_of_ble_eq_true rfl) rfl (by decide) rfl (Nat.le_of_ble_eq_true rfl) ⟨(Nat.le_of_ble_eq_true rfl), (Nat.le_of_ble_eq_true rfl)⟩ ⟨(Nat.le_of_ble_eq_true rfl), (Nat.le_of_ble_eq_true rfl)⟩ ?_
  refine r_sipush (v := 220) dX12_movesAs_83 (by decide) ?_
  refine r_ixor dX12_movesAs_86 ?_
  refine r_iret dX12_movesAs_87 rfl (Nat.le_refl _) ?_
  (try dsimp only [Gs_M])
  exact ⟨rfl, rfl⟩
set_option maxRecDepth 20000 in
set_option maxHeartbeats 1000000 in
theorem s_moves_1_8 (g : pG) {M : Nat → Nat → Int32} {A : aT} (hA : A.2.1 ≤ 30) (ko : Nat) (hko : ko < 8) (eo : M 54 25 = nI ko) (kd : Nat) (hkd : kd ≤ 5) (ek : M 55 (16 + 11 * ko + 0) = nI kd) (x : Int32) : MS g mX12_movesAs 8 0 0 [.ref 54, .int 1, .int x] (Gs (acS M A)) (dI (movK ko kd (M 55 (16 + 11 * ko + 1)) 1 x A).1 (Gs (acS M (movK ko kd (M 55 (16 + 11 * ko + 1)) 1 x A).2))) := by
  refine MS.of pn_X12 (Nat.le_of_ble_eq_true rfl) ?_
  refine r_iload_n dX12_movesAs_0 rfl rfl ?_
  refine r_iconst (v := 2) dX12_movesAs_1 (by decide) ?_
  refine r_icmp_eq (tgt := 10) dX12_movesAs_2 (by decide) (fun c => absurd c (by decide)) (fun _ => ?_)
  refine r_iload_n dX12_movesAs_5 rfl rfl ?_
  refine r_iconst (v := 4) dX12_movesAs_6 (by decide) ?_
  refine r_icmp_ne (tgt := 43) dX12_movesAs_7 (by decide) (fun _ => ?_) (fun c => absurd c (by decide))
  refine r_iload_n dX12_movesAs_43 rfl rfl ?_
  refine r_iconst (v := 5) dX12_movesAs_44 (by decide) ?_
  refine r_icmp_ne (tgt := 63) dX12_movesAs_45 (by decide) (fun _ => ?_) (fun c => absurd c (by decide))
  refine r_aload_n dX12_movesAs_63 rfl rfl ?_
  refine r_bipush (v := 13) dX12_movesAs_64 (by decide) ?_
  refine r_callV_dV (ci := 12) dX12_movesAs_66 (s_X12_starts g (A := A) hA 13) mf_X12_starts mi_X12_starts se_X12_X12_X12_starts ml_X12_259 rfl rfl (Nat.le_of_ble_eq_true rfl) rfl (by decide) rfl (Nat.le_of_ble_eq_true rfl) ⟨(Nat.le_of_ble_eq_true rfl), (Nat.le_of_ble_eq_true rfl)⟩ ⟨(Nat.le_of_ble_eq_true rfl), (Nat.le_of_ble_eq_true rfl)⟩ ?_
  refine r_aload_n dX12_movesAs_69 rfl rfl ?_
  refine r_aload_n dX12_movesAs_70 rfl rfl ?_
  refine r_aload_n dX12_movesAs_71 rfl rfl ?_
  refine r_getI dX12_movesAs_72 (ci := 12) (kf := 25) rfl (Nat.le_of_ble_eq_true rfl) (by decide) (by decide) rfl fl_X12_265 (Or.inl rfl) ?_
  rw [acS_own, eo]
  refine r_iconst (v := 0) dX12_movesAs_75 (by decide) ?_
  refine r_callV_dI (ci := 12) dX12_movesAs_76 (s_X12_get g (by exact ⟨rfl, rfl, rfl⟩) (ko) (0) (by omega) (by omega)) mf_X12_get mi_X12_get se_X12_X12_X12_get ml_X12_67 rfl rfl (Nat.le_of_ble_eq_true rfl) rfl (by decide) rfl (Nat.le_of_ble_eq_true rfl) ⟨(Nat.le_of_ble_eq_true rfl), (Nat.le_of_ble_eq_true rfl)⟩ ⟨(Nat.le_of_ble_eq_true rfl), (Nat.le_of_ble_eq_true rfl)⟩ ?_
  rw [acS_55, ek]
  refine r_iload_n dX12_movesAs_79 rfl rfl ?_
  refine r_callV_dI (ci := 12) dX12_movesAs_80 (s_singsC g (stA_le hA) ko hko eo kd hkd ek kd hkd _) mf_X12_singsAs mi_X12_singsAs se_X12_X12_X12_singsAs ml_X12_268 rfl rfl (Nat.le_of_ble_eq_true rfl) rfl (by decide) rfl (Nat.le_of_ble_eq_true rfl) ⟨(Nat.le_of_ble_eq_true rfl), (Nat.le_of_ble_eq_true rfl)⟩ ⟨(Nat.le_of_ble_eq_true rfl), (Nat.le_of_ble_eq_true rfl)⟩ ?_
  refine r_sipush (v := 220) dX12_movesAs_83 (by decide) ?_
  refine r_ixor dX12_movesAs_86 ?_
  refine r_iret dX12_movesAs_87 rfl (Nat.le_refl _) ?_
  (try dsimp only [Gs_M])
  exact ⟨rfl, rfl⟩
set_option maxRecDepth 20000 in
set_option maxHeartbeats 1000000 in
theorem s_moves_2_8 (g : pG) {M : Nat → Nat → Int32} {A : aT} (hA : A.2.1 ≤ 30) (ko : Nat) (hko : ko < 8) (eo : M 54 25 = nI ko) (kd : Nat) (hkd : kd ≤ 5) (ek : M 55 (16 + 11 * ko + 0) = nI kd) (x : Int32) : MS g mX12_movesAs 8 0 0 [.ref 54, .int 2, .int x] (Gs (acS M A)) (dI (movK ko kd (M 55 (16 + 11 * ko + 1)) 2 x A).1 (Gs (acS M (movK ko kd (M 55 (16 + 11 * ko + 1)) 2 x A).2))) := by
  refine MS.of pn_X12 (Nat.le_of_ble_eq_true rfl) ?_
  refine r_iload_n dX12_movesAs_0 rfl rfl ?_
  refine r_iconst (v := 2) dX12_movesAs_1 (by decide) ?_
  refine r_icmp_eq (tgt := 10) dX12_movesAs_2 (by decide) (fun _ => ?_) (fun c => absurd c (by decide))
  refine r_aload_n dX12_movesAs_10 rfl rfl ?_
  refine r_bipush (v := 31) dX12_movesAs_11 (by decide) ?_
  refine r_callV_dV (ci := 12) dX12_movesAs_13 (s_X12_starts g (A := A) hA 31) mf_X12_starts mi_X12_starts se_X12_X12_X12_starts ml_X12_259 rfl rfl (Nat.le_of_ble_eq_true rfl) rfl (by decide) rfl (Nat.le_of_ble_eq_true rfl) ⟨(Nat.le_of_ble_eq_true rfl), (Nat.le_of_ble_eq_true rfl)⟩ ⟨(Nat.le_of_ble_eq_true rfl), (Nat.le_of_ble_eq_true rfl)⟩ ?_
  refine r_aload_n dX12_movesAs_16 rfl rfl ?_
  refine r_iconst (v := 0) dX12_movesAs_17 (by decide) ?_
  refine r_iload_n dX12_movesAs_18 rfl rfl ?_
  refine r_callV_dI (ci := 12) dX12_movesAs_19 (s_moves_0_7 g (stA_le hA) ko hko eo kd hkd ek _) mf_X12_movesAs mi_X12_movesAs se_X12_X12_X12_movesAs ml_X12_278 rfl rfl (Nat.le_of_ble_eq_true rfl) rfl (by decide) rfl (Nat.le_of_ble_eq_true rfl) ⟨(Nat.le_of_ble_eq_true rfl), (Nat.le_of_ble_eq_true rfl)⟩ ⟨(Nat.le_of_ble_eq_true rfl), (Nat.le_of_ble_eq_true rfl)⟩ ?_
  refine r_istore_n dX12_movesAs_22 rfl (by decide) ?_
  refine r_iload_n dX12_movesAs_23 rfl rfl ?_
  refine r_aload_n dX12_movesAs_24 rfl rfl ?_
  refine r_aload_n dX12_movesAs_25 rfl rfl ?_
  refine r_aload_n dX12_movesAs_26 rfl rfl ?_
  refine r_getI dX12_movesAs_27 (ci := 12) (kf := 25) rfl (Nat.le_of_ble_eq_true rfl) (by decide) (by decide) rfl fl_X12_265 (Or.inl rfl) ?_
  rw [acS_own, eo]
  refine r_iconst (v := 0) dX12_movesAs_30 (by decide) ?_
  refine r_callV_dI (ci := 12) dX12_movesAs_31 (s_X12_get g (by exact ⟨rfl, rfl, rfl⟩) (ko) (0) (by omega) (by omega)) mf_X12_get mi_X12_get se_X12_X12_X12_get ml_X12_67 rfl rfl (Nat.le_of_ble_eq_true rfl) rfl (by decide) rfl (Nat.le_of_ble_eq_true rfl) ⟨(Nat.le_of_ble_eq_true rfl), (Nat.le_of_ble_eq_true rfl)⟩ ⟨(Nat.le_of_ble_eq_true rfl), (Nat.le_of_ble_eq_true rfl)⟩ ?_
  rw [acS_55, ek]
  refine r_aload_n dX12_movesAs_34 rfl rfl ?_
  refine r_getI dX12_movesAs_35 (ci := 12) (kf := 25) rfl (Nat.le_of_ble_eq_true rfl) (by decide) (by decide) rfl fl_X12_265 (Or.inl rfl) ?_
  rw [acS_own, eo]
  refine r_callV_dI (ci := 12) dX12_movesAs_38 (s_partsC g (movK_le (stA_le hA)) ko hko eo kd hkd _) mf_X12_partsAs mi_X12_partsAs se_X12_X12_X12_partsAs ml_X12_271 rfl rfl (Nat.le_of_ble_eq_true rfl) rfl (by decide) rfl (Nat.le_of_ble_eq_true rfl) ⟨(Nat.le_of_ble_eq_true rfl), (Nat.le_of_ble_eq_true rfl)⟩ ⟨(Nat.le_of_ble_eq_true rfl), (Nat.le_of_ble_eq_true rfl)⟩ ?_
  refine r_iadd dX12_movesAs_41 ?_
  refine r_iret dX12_movesAs_42 rfl (Nat.le_refl _) ?_
  (try dsimp only [Gs_M])
  exact ⟨rfl, rfl⟩
set_option maxRecDepth 20000 in
set_option maxHeartbeats 1000000 in
theorem s_moves_3_8 (g : pG) {M : Nat → Nat → Int32} {A : aT} (hA : A.2.1 ≤ 30) (ko : Nat) (hko : ko < 8) (eo : M 54 25 = nI ko) (kd : Nat) (hkd : kd ≤ 5) (ek : M 55 (16 + 11 * ko + 0) = nI kd) (x : Int32) : MS g mX12_movesAs 8 0 0 [.ref 54, .int 3, .int x] (Gs (acS M A)) (dI (movK ko kd (M 55 (16 + 11 * ko + 1)) 3 x A).1 (Gs (acS M (movK ko kd (M 55 (16 + 11 * ko + 1)) 3 x A).2))) := by
  refine MS.of pn_X12 (Nat.le_of_ble_eq_true rfl) ?_
  refine r_iload_n dX12_movesAs_0 rfl rfl ?_
  refine r_iconst (v := 2) dX12_movesAs_1 (by decide) ?_
  refine r_icmp_eq (tgt := 10) dX12_movesAs_2 (by decide) (fun c => absurd c (by decide)) (fun _ => ?_)
  refine r_iload_n dX12_movesAs_5 rfl rfl ?_
  refine r_iconst (v := 4) dX12_movesAs_6 (by decide) ?_
  refine r_icmp_ne (tgt := 43) dX12_movesAs_7 (by decide) (fun _ => ?_) (fun c => absurd c (by decide))
  refine r_iload_n dX12_movesAs_43 rfl rfl ?_
  refine r_iconst (v := 5) dX12_movesAs_44 (by decide) ?_
  refine r_icmp_ne (tgt := 63) dX12_movesAs_45 (by decide) (fun _ => ?_) (fun c => absurd c (by decide))
  refine r_aload_n dX12_movesAs_63 rfl rfl ?_
  refine r_bipush (v := 13) dX12_movesAs_64 (by decide) ?_
  refine r_callV_dV (ci := 12) dX12_movesAs_66 (s_X12_starts g (A := A) hA 13) mf_X12_starts mi_X12_starts se_X12_X12_X12_starts ml_X12_259 rfl rfl (Nat.le_of_ble_eq_true rfl) rfl (by decide) rfl (Nat.le_of_ble_eq_true rfl) ⟨(Nat.le_of_ble_eq_true rfl), (Nat.le_of_ble_eq_true rfl)⟩ ⟨(Nat.le_of_ble_eq_true rfl), (Nat.le_of_ble_eq_true rfl)⟩ ?_
  refine r_aload_n dX12_movesAs_69 rfl rfl ?_
  refine r_aload_n dX12_movesAs_70 rfl rfl ?_
  refine r_aload_n dX12_movesAs_71 rfl rfl ?_
  refine r_getI dX12_movesAs_72 (ci := 12) (kf := 25) rfl (Nat.le_of_ble_eq_true rfl) (by decide) (by decide) rfl fl_X12_265 (Or.inl rfl) ?_
  rw [acS_own, eo]
  refine r_iconst (v := 0) dX12_movesAs_75 (by decide) ?_
  refine r_callV_dI (ci := 12) dX12_movesAs_76 (s_X12_get g (by exact ⟨rfl, rfl, rfl⟩) (ko) (0) (by omega) (by omega)) mf_X12_get mi_X12_get se_X12_X12_X12_get ml_X12_67 rfl rfl (Nat.le_of_ble_eq_true rfl) rfl (by decide) rfl (Nat.le_of_ble_eq_true rfl) ⟨(Nat.le_of_ble_eq_true rfl), (Nat.le_of_ble_eq_true rfl)⟩ ⟨(Nat.le_of_ble_eq_true rfl), (Nat.le_of_ble_eq_true rfl)⟩ ?_
  rw [acS_55, ek]
  refine r_iload_n dX12_movesAs_79 rfl rfl ?_
  refine r_callV_dI (ci := 12) dX12_movesAs_80 (s_singsC g (stA_le hA) ko hko eo kd hkd ek kd hkd _) mf_X12_singsAs mi_X12_singsAs se_X12_X12_X12_singsAs ml_X12_268 rfl rfl (Nat.le_of_ble_eq_true rfl) rfl (by decide) rfl (Nat.le_of_ble_eq_true rfl) ⟨(Nat.le_of_ble_eq_true rfl), (Nat.le_of_ble_eq_true rfl)⟩ ⟨(Nat.le_of_ble_eq_true rfl), (Nat.le_of_ble_eq_true rfl)⟩ ?_
  refine r_sipush (v := 220) dX12_movesAs_83 (by decide) ?_
  refine r_ixor dX12_movesAs_86 ?_
  refine r_iret dX12_movesAs_87 rfl (Nat.le_refl _) ?_
  (try dsimp only [Gs_M])
  exact ⟨rfl, rfl⟩
set_option maxRecDepth 20000 in
set_option maxHeartbeats 1000000 in
theorem s_moves_4_8 (g : pG) {M : Nat → Nat → Int32} {A : aT} (hA : A.2.1 ≤ 30) (ko : Nat) (hko : ko < 8) (eo : M 54 25 = nI ko) (kd : Nat) (hkd : kd ≤ 5) (ek : M 55 (16 + 11 * ko + 0) = nI kd) (x : Int32) : MS g mX12_movesAs 8 0 0 [.ref 54, .int 4, .int x] (Gs (acS M A)) (dI (movK ko kd (M 55 (16 + 11 * ko + 1)) 4 x A).1 (Gs (acS M (movK ko kd (M 55 (16 + 11 * ko + 1)) 4 x A).2))) := by
  refine MS.of pn_X12 (Nat.le_of_ble_eq_true rfl) ?_
  refine r_iload_n dX12_movesAs_0 rfl rfl ?_
  refine r_iconst (v := 2) dX12_movesAs_1 (by decide) ?_
  refine r_icmp_eq (tgt := 10) dX12_movesAs_2 (by decide) (fun c => absurd c (by decide)) (fun _ => ?_)
  refine r_iload_n dX12_movesAs_5 rfl rfl ?_
  refine r_iconst (v := 4) dX12_movesAs_6 (by decide) ?_
  refine r_icmp_ne (tgt := 43) dX12_movesAs_7 (by decide) (fun c => absurd c (by decide)) (fun _ => ?_)
  refine r_aload_n dX12_movesAs_10 rfl rfl ?_
  refine r_bipush (v := 31) dX12_movesAs_11 (by decide) ?_
  refine r_callV_dV (ci := 12) dX12_movesAs_13 (s_X12_starts g (A := A) hA 31) mf_X12_starts mi_X12_starts se_X12_X12_X12_starts ml_X12_259 rfl rfl (Nat.le_of_ble_eq_true rfl) rfl (by decide) rfl (Nat.le_of_ble_eq_true rfl) ⟨(Nat.le_of_ble_eq_true rfl), (Nat.le_of_ble_eq_true rfl)⟩ ⟨(Nat.le_of_ble_eq_true rfl), (Nat.le_of_ble_eq_true rfl)⟩ ?_
  refine r_aload_n dX12_movesAs_16 rfl rfl ?_
  refine r_iconst (v := 0) dX12_movesAs_17 (by decide) ?_
  refine r_iload_n dX12_movesAs_18 rfl rfl ?_
  refine r_callV_dI (ci := 12) dX12_movesAs_19 (s_moves_0_7 g (stA_le hA) ko hko eo kd hkd ek _) mf_X12_movesAs mi_X12_movesAs se_X12_X12_X12_movesAs ml_X12_278 rfl rfl (Nat.le_of_ble_eq_true rfl) rfl (by decide) rfl (Nat.le_of_ble_eq_true rfl) ⟨(Nat.le_of_ble_eq_true rfl), (Nat.le_of_ble_eq_true rfl)⟩ ⟨(Nat.le_of_ble_eq_true rfl), (Nat.le_of_ble_eq_true rfl)⟩ ?_
  refine r_istore_n dX12_movesAs_22 rfl (by decide) ?_
  refine r_iload_n dX12_movesAs_23 rfl rfl ?_
  refine r_aload_n dX12_movesAs_24 rfl rfl ?_
  refine r_aload_n dX12_movesAs_25 rfl rfl ?_
  refine r_aload_n dX12_movesAs_26 rfl rfl ?_
  refine r_getI dX12_movesAs_27 (ci := 12) (kf := 25) rfl (Nat.le_of_ble_eq_true rfl) (by decide) (by decide) rfl fl_X12_265 (Or.inl rfl) ?_
  rw [acS_own, eo]
  refine r_iconst (v := 0) dX12_movesAs_30 (by decide) ?_
  refine r_callV_dI (ci := 12) dX12_movesAs_31 (s_X12_get g (by exact ⟨rfl, rfl, rfl⟩) (ko) (0) (by omega) (by omega)) mf_X12_get mi_X12_get se_X12_X12_X12_get ml_X12_67 rfl rfl (Nat.le_of_ble_eq_true rfl) rfl (by decide) rfl (Nat.le_of_ble_eq_true rfl) ⟨(Nat.le_of_ble_eq_true rfl), (Nat.le_of_ble_eq_true rfl)⟩ ⟨(Nat.le_of_ble_eq_true rfl), (Nat.le_of_ble_eq_true rfl)⟩ ?_
  rw [acS_55, ek]
  refine r_aload_n dX12_movesAs_34 rfl rfl ?_
  refine r_getI dX12_movesAs_35 (ci := 12) (kf := 25) rfl (Nat.le_of_ble_eq_true rfl) (by decide) (by decide) rfl fl_X12_265 (Or.inl rfl) ?_
  rw [acS_own, eo]
  refine r_callV_dI (ci := 12) dX12_movesAs_38 (s_partsC g (movK_le (stA_le hA)) ko hko eo kd hkd _) mf_X12_partsAs mi_X12_partsAs se_X12_X12_X12_partsAs ml_X12_271 rfl rfl (Nat.le_of_ble_eq_true rfl) rfl (by decide) rfl (Nat.le_of_ble_eq_true rfl) ⟨(Nat.le_of_ble_eq_true rfl), (Nat.le_of_ble_eq_true rfl)⟩ ⟨(Nat.le_of_ble_eq_true rfl), (Nat.le_of_ble_eq_true rfl)⟩ ?_
  refine r_iadd dX12_movesAs_41 ?_
  refine r_iret dX12_movesAs_42 rfl (Nat.le_refl _) ?_
  (try dsimp only [Gs_M])
  exact ⟨rfl, rfl⟩
set_option maxRecDepth 20000 in
set_option maxHeartbeats 1000000 in
theorem s_moves_5_8 (g : pG) {M : Nat → Nat → Int32} {A : aT} (hA : A.2.1 ≤ 30) (ko : Nat) (hko : ko < 8) (eo : M 54 25 = nI ko) (kd : Nat) (hkd : kd ≤ 5) (ek : M 55 (16 + 11 * ko + 0) = nI kd) (x : Int32) : MS g mX12_movesAs 8 0 0 [.ref 54, .int 5, .int x] (Gs (acS M A)) (dI (movK ko kd (M 55 (16 + 11 * ko + 1)) 5 x A).1 (Gs (acS M (movK ko kd (M 55 (16 + 11 * ko + 1)) 5 x A).2))) := by
  refine MS.of pn_X12 (Nat.le_of_ble_eq_true rfl) ?_
  refine r_iload_n dX12_movesAs_0 rfl rfl ?_
  refine r_iconst (v := 2) dX12_movesAs_1 (by decide) ?_
  refine r_icmp_eq (tgt := 10) dX12_movesAs_2 (by decide) (fun c => absurd c (by decide)) (fun _ => ?_)
  refine r_iload_n dX12_movesAs_5 rfl rfl ?_
  refine r_iconst (v := 4) dX12_movesAs_6 (by decide) ?_
  refine r_icmp_ne (tgt := 43) dX12_movesAs_7 (by decide) (fun _ => ?_) (fun c => absurd c (by decide))
  refine r_iload_n dX12_movesAs_43 rfl rfl ?_
  refine r_iconst (v := 5) dX12_movesAs_44 (by decide) ?_
  refine r_icmp_ne (tgt := 63) dX12_movesAs_45 (by decide) (fun c => absurd c (by decide)) (fun _ => ?_)
  refine r_aload_n dX12_movesAs_48 rfl rfl ?_
  refine r_bipush (v := 60) dX12_movesAs_49 (by decide) ?_
  refine r_callV_dV (ci := 12) dX12_movesAs_51 (s_X12_starts g (A := A) hA 60) mf_X12_starts mi_X12_starts se_X12_X12_X12_starts ml_X12_259 rfl rfl (Nat.le_of_ble_eq_true rfl) rfl (by decide) rfl (Nat.le_of_ble_eq_true rfl) ⟨(Nat.le_of_ble_eq_true rfl), (Nat.le_of_ble_eq_true rfl)⟩ ⟨(Nat.le_of_ble_eq_true rfl), (Nat.le_of_ble_eq_true rfl)⟩ ?_
  refine r_aload_n dX12_movesAs_54 rfl rfl ?_
  refine r_iconst (v := 0) dX12_movesAs_55 (by decide) ?_
  refine r_iload_n dX12_movesAs_56 rfl rfl ?_
  refine r_callV_dI (ci := 12) dX12_movesAs_57 (s_moves_0_7 g (stA_le hA) ko hko eo kd hkd ek _) mf_X12_movesAs mi_X12_movesAs se_X12_X12_X12_movesAs ml_X12_278 rfl rfl (Nat.le_of_ble_eq_true rfl) rfl (by decide) rfl (Nat.le_of_ble_eq_true rfl) ⟨(Nat.le_of_ble_eq_true rfl), (Nat.le_of_ble_eq_true rfl)⟩ ⟨(Nat.le_of_ble_eq_true rfl), (Nat.le_of_ble_eq_true rfl)⟩ ?_
  refine r_iconst (v := 1) dX12_movesAs_60 (by decide) ?_
  refine r_isub dX12_movesAs_61 ?_
  refine r_iret dX12_movesAs_62 rfl (Nat.le_refl _) ?_
  (try dsimp only [Gs_M])
  exact ⟨rfl, rfl⟩
theorem s_movesC (g : pG) {M : Nat → Nat → Int32} {A : aT} (hA : A.2.1 ≤ 30) (ko : Nat) (hko : ko < 8) (eo : M 54 25 = nI ko) (kd : Nat) (hkd : kd ≤ 5) (ek : M 55 (16 + 11 * ko + 0) = nI kd) (k : Nat) (hk : k ≤ 5) (x : Int32) : MS g mX12_movesAs 8 0 0 [.ref 54, .int (nI k), .int x] (Gs (acS M A)) (dI (movK ko kd (M 55 (16 + 11 * ko + 1)) k x A).1 (Gs (acS M (movK ko kd (M 55 (16 + 11 * ko + 1)) k x A).2))) := by
  rcases (by omega : k = 0 ∨ k = 1 ∨ k = 2 ∨ k = 3 ∨ k = 4 ∨ k = 5) with rfl | rfl | rfl | rfl | rfl | rfl
  · exact s_moves_0_8 g hA ko hko eo kd hkd ek x
  · exact s_moves_1_8 g hA ko hko eo kd hkd ek x
  · exact s_moves_2_8 g hA ko hko eo kd hkd ek x
  · exact s_moves_3_8 g hA ko hko eo kd hkd ek x
  · exact s_moves_4_8 g hA ko hko eo kd hkd ek x
  · exact s_moves_5_8 g hA ko hko eo kd hkd ek x
def own1 (M : Nat → Nat → Int32) (v : Int32) : Nat → Nat → Int32 := fun q => if q = 54 then upd (M 54) 25 v else M q
theorem acS_init {M : Nat → Nat → Int32} {v : Int32} : mSet (mSet (mSet (Gs M) 54 24 0) 54 25 v) 54 26 0 = Gs (acS (own1 M v) (M 70, 0, 0)) := by
  refine congrArg (fun f => ((71, sh0, rf0, f) : pS)) ?_
  funext q
  by_cases h2 : q = 54
  · subst h2
    funext f
    show upd (upd (upd (M 54) 24 0) 25 v) 26 0 f = (if f = 24 then nI 0 else if f = 26 then 0 else upd (M 54) 25 v f)
    by_cases h3 : f = 26
    · subst h3; rfl
    · rw [pk_un h3, if_neg h3]
      by_cases h4 : f = 24
      · subst h4; rfl
      · rw [if_neg h4]
        by_cases h5 : f = 25
        · subst h5; rw [pk_us, pk_us]
        · rw [pk_un h5, pk_un h5, pk_un h4]
  · have e1 : (mSet (mSet (mSet (Gs M) 54 24 0) 54 25 v) 54 26 0).2.2.2 q = M q := by rw [mSet_ne h2, mSet_ne h2, mSet_ne h2]; rfl
    refine e1.trans ?_
    by_cases h : q = 70
    · subst h; rfl
    · show _ = (if q = 70 then _ else if q = 54 then _ else (if q = 54 then _ else M q))
      rw [if_neg h, if_neg h2, if_neg h2]
def InvK (W : Nat → Int32) : Prop := ∀ k, k < 8 → ∃ d, d ≤ 5 ∧ W (16 + 11 * k + 0) = nI d
def actK (ko kd : Nat) (o1 act x : Int32) (A : aT) : Int32 × aT := if act = 0 then bowK ko kd x A else if act = 1 then sngK ko kd o1 kd x A else if act = 2 then prtK ko o1 kd x A else movK ko kd o1 kd x A
theorem actK_le {ko kd : Nat} {o1 act x : Int32} {A : aT} (h : A.2.1 ≤ 30) : (actK ko kd o1 act x A).2.2.1 ≤ 30 := by
  unfold actK
  split
  · exact bowK_le h
  · split
    · exact sngK_le h
    · split
      · exact prtK_le h
      · exact movK_le h
def actY (W h1 : Nat → Int32) (a act x : Int32) (T : Nat → Int32) : Int32 × aT := actK (cl (h1 (cl a))) (cl (W (16 + 11 * cl (h1 (cl a)) + 0))) (W (16 + 11 * cl (h1 (cl a)) + 1)) act x (T, 0, 0)
def actX (W ho h1 : Nat → Int32) (a act x : Int32) (T : Nat → Int32) : Int32 × (Nat → Int32) × Nat := if (0 ≤ a ∧ a ≤ 3) ∧ (0 ≤ act ∧ act ≤ 3) ∧ hoX W ho h1 (cl a) = 0 then (if (actY W h1 a act x T).2.2.2 = 0 then (actY W h1 a act x T).1 else -15, (actY W h1 a act x T).2.1, (actY W h1 a act x T).2.2.1) else (0, T, 0)
theorem kq_ac {M : Nat → Nat → Int32} {v : Int32} {A : aT} : kq [70] [24, 25, 26] (Gs M) (Gs (acS (own1 M v) A)) := ⟨⟨rfl, rfl, rfl⟩, fun q a b => by
  show (if q = 70 then _ else if q = 54 then _ else (if q = 54 then _ else M q)) = M q
  rw [if_neg (fun z => a (by rw [z]; decide)), if_neg b, if_neg b], fun f a b => by
  show (if f = 24 then _ else if f = 26 then _ else upd (M 54) 25 v f) = M 54 f
  rw [if_neg (fun z => a (by rw [z]; decide)), if_neg (fun z => a (by rw [z]; decide)), pk_un (fun z => a (by rw [z]; decide))]⟩
set_option maxRecDepth 20000 in
set_option maxHeartbeats 1000000 in
theorem s_X12_act (g : pG) {S : pS} (hS : sOk S) (hI : InvR (S.2.2.2 55)) (hK : InvK (S.2.2.2 55)) (a act x : Int32) : MS g mX12_act 9 0 0 [.ref 54, .int a, .int act, .int x] (S) (eI (fun rx S1 => kq [70] [24, 25, 26] (S) S1 ∧ rx = (actX ((S).2.2.2 55) ((S).2.2.2 68) ((S).2.2.2 69) a act x ((S).2.2.2 70)).1 ∧ S1.2.2.2 70 = (actX ((S).2.2.2 55) ((S).2.2.2 68) ((S).2.2.2 69) a act x ((S).2.2.2 70)).2.1 ∧ S1.2.2.2 54 24 = nI (actX ((S).2.2.2 55) ((S).2.2.2 68) ((S).2.2.2 69) a act x ((S).2.2.2 70)).2.2)) := by
  obtain ⟨M0, rfl⟩ := sOk_gs hS
  have hI : InvR (M0 55) := hI
  obtain ⟨h8, hpl⟩ := hI.pl
  have h8 : plR (M0 55) ≤ 8 := h8
  have hpl : M0 55 6 = nI (plR (M0 55)) := hpl
  refine MS.of pn_X12 (Nat.le_of_ble_eq_true rfl) ?_
  refine r_aload_n dX12_act_0 rfl rfl ?_
  refine r_iconst (v := 0) dX12_act_1 (by decide) ?_
  refine r_putI dX12_act_2 (ci := 12) (kf := 24) rfl (Nat.le_of_ble_eq_true rfl) (by decide) (by decide) rfl fl_X12_256 (Or.inl rfl) rfl rfl rfl ?_
  refine r_iload_n dX12_act_5 rfl rfl ?_
  refine r_callS_dI dX12_act_6 (s_X12_isSheet g _ _) mf_X12_isSheet mt_X12_isSheet ml_X12_230 rfl rfl (Nat.le_of_ble_eq_true rfl) ⟨(Nat.le_of_ble_eq_true rfl), (Nat.le_of_ble_eq_true rfl)⟩ ⟨(Nat.le_of_ble_eq_true rfl), (Nat.le_of_ble_eq_true rfl)⟩ ?_
  refine r_if_eq (tgt := 29) dX12_act_9 (by decide) (fun c_9 => ?_) (fun c_9 => ?_)
  · have c_9 := bI_0 c_9
    (try dsimp only [Gs_M] at c_9)
    refine r_iconst (v := 0) dX12_act_29 (by decide) ?_
    refine r_iret dX12_act_30 rfl (Nat.le_refl _) ?_
    (try dsimp only [Gs_M])
    have e : actX (M0 55) (M0 68) (M0 69) a act x (M0 70) = (0, M0 70, 0) := if_neg (fun z => c_9 z.1)
    refine ⟨_, rfl, (kq.rf hS).set (by decide), ?_, ?_, ?_⟩
    · rw [e]
    · rw [e]
      exact mSet_ne (by decide)
    · rw [e, mSet_at, pk_us]
      rfl
  · have c_9 := bI_n c_9
    (try dsimp only [Gs_M] at c_9)
    refine r_iload_n dX12_act_12 rfl rfl ?_
    refine r_iconst (v := 0) dX12_act_13 (by decide) ?_
    refine r_iconst (v := 3) dX12_act_14 (by decide) ?_
    refine r_callS_dI dX12_act_15 (s_X12_in1 g _ _ _ _) mf_X12_in1 mt_X12_in1 ml_X12_63 rfl rfl (Nat.le_of_ble_eq_true rfl) ⟨(Nat.le_of_ble_eq_true rfl), (Nat.le_of_ble_eq_true rfl)⟩ ⟨(Nat.le_of_ble_eq_true rfl), (Nat.le_of_ble_eq_true rfl)⟩ ?_
    refine r_if_eq (tgt := 29) dX12_act_18 (by decide) (fun c_18 => ?_) (fun c_18 => ?_)
    · have c_18 := bI_0 c_18
      (try dsimp only [Gs_M] at c_18)
      refine r_iconst (v := 0) dX12_act_29 (by decide) ?_
      refine r_iret dX12_act_30 rfl (Nat.le_refl _) ?_
      (try dsimp only [Gs_M])
      have e : actX (M0 55) (M0 68) (M0 69) a act x (M0 70) = (0, M0 70, 0) := if_neg (fun z => c_18 z.2.1)
      refine ⟨_, rfl, (kq.rf hS).set (by decide), ?_, ?_, ?_⟩
      · rw [e]
      · rw [e]
        exact mSet_ne (by decide)
      · rw [e, mSet_at, pk_us]
        rfl
    · have c_18 := bI_n c_18
      (try dsimp only [Gs_M] at c_18)
      obtain ⟨ja, hja, rfl⟩ := rng (x := a) 3 (by decide) c_9
      refine r_aload_n dX12_act_21 rfl rfl ?_
      refine r_iload_n dX12_act_22 rfl rfl ?_
      refine r_callV_dI (ci := 12) dX12_act_23 (s_X12_heldOn g (by exact ⟨rfl, rfl, rfl⟩) (ja) (by omega)) mf_X12_heldOn mi_X12_heldOn se_X12_X12_X12_heldOn ml_X12_250 rfl rfl (Nat.le_of_ble_eq_true rfl) rfl (by decide) rfl (Nat.le_of_ble_eq_true rfl) ⟨(Nat.le_of_ble_eq_true rfl), (Nat.le_of_ble_eq_true rfl)⟩ ⟨(Nat.le_of_ble_eq_true rfl), (Nat.le_of_ble_eq_true rfl)⟩ ?_
      rw [show hoX ((mSet (Gs M0) 54 24 0).2.2.2 55) ((mSet (Gs M0) 54 24 0).2.2.2 68) ((mSet (Gs M0) 54 24 0).2.2.2 69) ja = hoX (M0 55) (M0 68) (M0 69) ja from rfl]
      refine r_if_eq (tgt := 31) dX12_act_26 (by decide) (fun c_26 => ?_) (fun c_26 => ?_)
      · (try dsimp only [Gs_M] at c_26)
        obtain ⟨jn, hjn, e69⟩ := rngP (ho0 (h1 := M0 69) c_26) h8 hpl
        obtain ⟨kd, hkd, ekd⟩ := hK jn (by omega)
        have e69 : M0 69 ja = nI jn := e69
        have ekd : M0 55 (16 + 11 * jn + 0) = nI kd := ekd
        refine r_aload_n dX12_act_31 rfl rfl ?_
        refine r_aload_n dX12_act_32 rfl rfl ?_
        refine r_getR (q := 69) dX12_act_33 (ci := 12) (kf := 22) rfl (Nat.le_of_ble_eq_true rfl) (by decide) (by decide) rfl fl_X12_53 (Or.inl rfl) rfl ?_
        refine r_iload_n dX12_act_36 rfl rfl ?_
        refine r_iald (j := ja) dX12_act_37 rfl (Nat.le_of_ble_eq_true rfl) rfl (by omega) (by decide) ?_
        rw [show (mSet (Gs M0) 54 24 0).2.2.2 69 ja = nI jn from e69]
        refine r_putI dX12_act_38 (ci := 12) (kf := 25) rfl (Nat.le_of_ble_eq_true rfl) (by decide) (by decide) rfl fl_X12_265 (Or.inl rfl) rfl rfl rfl ?_
        refine r_aload_n dX12_act_41 rfl rfl ?_
        refine r_iconst (v := 0) dX12_act_42 (by decide) ?_
        refine r_putI dX12_act_43 (ci := 12) (kf := 26) rfl (Nat.le_of_ble_eq_true rfl) (by decide) (by decide) rfl fl_X12_274 (Or.inl rfl) rfl rfl rfl ?_
        rw [acS_init]
        refine r_aload_n dX12_act_46 rfl rfl ?_
        refine r_aload_n dX12_act_47 rfl rfl ?_
        refine r_getI dX12_act_48 (ci := 12) (kf := 25) rfl (Nat.le_of_ble_eq_true rfl) (by decide) (by decide) rfl fl_X12_265 (Or.inl rfl) ?_
        rw [show (Gs (acS (own1 M0 (nI jn)) (M0 70, 0, 0))).2.2.2 54 25 = nI jn from rfl]
        refine r_iconst (v := 0) dX12_act_51 (by decide) ?_
        refine r_callV_dI (ci := 12) dX12_act_52 (s_X12_get g (by exact ⟨rfl, rfl, rfl⟩) (jn) (0) (by omega) (by omega)) mf_X12_get mi_X12_get se_X12_X12_X12_get ml_X12_67 rfl rfl (Nat.le_of_ble_eq_true rfl) rfl (by decide) rfl (Nat.le_of_ble_eq_true rfl) ⟨(Nat.le_of_ble_eq_true rfl), (Nat.le_of_ble_eq_true rfl)⟩ ⟨(Nat.le_of_ble_eq_true rfl), (Nat.le_of_ble_eq_true rfl)⟩ ?_
        rw [show (Gs (acS (own1 M0 (nI jn)) (M0 70, 0, 0))).2.2.2 55 (16 + 11 * jn + 0) = nI kd from ekd]
        refine r_istore dX12_act_55 (by decide) ?_
        refine r_iload_n dX12_act_57 rfl rfl ?_
        refine r_if_ne (tgt := 71) dX12_act_58 (by decide) (fun c_58 => ?_) (fun c_58 => ?_)
        · (try dsimp only [Gs_M] at c_58)
          refine r_iload_n dX12_act_71 rfl rfl ?_
          refine r_iconst (v := 1) dX12_act_72 (by decide) ?_
          refine r_icmp_ne (tgt := 86) dX12_act_73 (by decide) (fun c_73 => ?_) (fun c_73 => ?_)
          · (try dsimp only [Gs_M] at c_73)
            refine r_iload_n dX12_act_86 rfl rfl ?_
            refine r_iconst (v := 2) dX12_act_87 (by decide) ?_
            refine r_icmp_ne (tgt := 101) dX12_act_88 (by decide) (fun c_88 => ?_) (fun c_88 => ?_)
            · (try dsimp only [Gs_M] at c_88)
              refine r_aload_n dX12_act_101 rfl rfl ?_
              refine r_iload dX12_act_102 rfl ?_
              refine r_iload_n dX12_act_104 rfl rfl ?_
              refine r_callV_dI (ci := 12) dX12_act_105 (s_movesC g (M := own1 M0 (nI jn)) (A := (M0 70, 0, 0)) (Nat.zero_le _) jn (by omega) rfl kd hkd ekd kd hkd x) mf_X12_movesAs mi_X12_movesAs se_X12_X12_X12_movesAs ml_X12_278 rfl rfl (Nat.le_of_ble_eq_true rfl) rfl (by decide) rfl (Nat.le_of_ble_eq_true rfl) ⟨(Nat.le_of_ble_eq_true rfl), (Nat.le_of_ble_eq_true rfl)⟩ ⟨(Nat.le_of_ble_eq_true rfl), (Nat.le_of_ble_eq_true rfl)⟩ ?_
              refine r_istore dX12_act_108 (by decide) ?_
              refine r_aload_n dX12_act_110 rfl rfl ?_
              refine r_getI dX12_act_111 (ci := 12) (kf := 26) rfl (Nat.le_of_ble_eq_true rfl) (by decide) (by decide) rfl fl_X12_274 (Or.inl rfl) ?_
              refine r_if_eq (tgt := 122) dX12_act_114 (by decide) (fun c_114 => ?_) (fun c_114 => ?_)
              · (try dsimp only [Gs_M] at c_114)
                refine r_iload dX12_act_122 rfl ?_
                refine r_iret dX12_act_124 rfl (Nat.le_refl _) ?_
                (try dsimp only [Gs_M])
                have ey : actY (M0 55) (M0 69) (nI ja) act x (M0 70) = movK jn kd (M0 55 (16 + 11 * jn + 1)) kd x (M0 70, 0, 0) := by rw [actY, cl_nI (by omega), e69, cl_nI (by omega), ekd, cl_nI (by omega), actK, if_neg c_58, if_neg c_73, if_neg c_88]
                have e : actX (M0 55) (M0 68) (M0 69) (nI ja) act x (M0 70) = (if (movK jn kd (M0 55 (16 + 11 * jn + 1)) kd x (M0 70, 0, 0)).2.2.2 = 0 then (movK jn kd (M0 55 (16 + 11 * jn + 1)) kd x (M0 70, 0, 0)).1 else -15, (movK jn kd (M0 55 (16 + 11 * jn + 1)) kd x (M0 70, 0, 0)).2.1, (movK jn kd (M0 55 (16 + 11 * jn + 1)) kd x (M0 70, 0, 0)).2.2.1) := by rw [actX, if_pos ⟨c_9, c_18, by rw [cl_nI (by omega)]; exact c_26⟩, ey]
                refine ⟨_, rfl, kq_ac, ?_, ?_, ?_⟩
                · rw [e]
                  exact (if_pos c_114).symm
                · rw [e]
                  rfl
                · rw [e]
                  rfl
              · (try dsimp only [Gs_M] at c_114)
                refine r_bipush (v := (-15)) dX12_act_117 (by decide) ?_
                refine r_goto (tgt := 124) dX12_act_119 (by decide) ?_
                refine r_iret dX12_act_124 rfl (Nat.le_refl _) ?_
                (try dsimp only [Gs_M])
                have ey : actY (M0 55) (M0 69) (nI ja) act x (M0 70) = movK jn kd (M0 55 (16 + 11 * jn + 1)) kd x (M0 70, 0, 0) := by rw [actY, cl_nI (by omega), e69, cl_nI (by omega), ekd, cl_nI (by omega), actK, if_neg c_58, if_neg c_73, if_neg c_88]
                have e : actX (M0 55) (M0 68) (M0 69) (nI ja) act x (M0 70) = (if (movK jn kd (M0 55 (16 + 11 * jn + 1)) kd x (M0 70, 0, 0)).2.2.2 = 0 then (movK jn kd (M0 55 (16 + 11 * jn + 1)) kd x (M0 70, 0, 0)).1 else -15, (movK jn kd (M0 55 (16 + 11 * jn + 1)) kd x (M0 70, 0, 0)).2.1, (movK jn kd (M0 55 (16 + 11 * jn + 1)) kd x (M0 70, 0, 0)).2.2.1) := by rw [actX, if_pos ⟨c_9, c_18, by rw [cl_nI (by omega)]; exact c_26⟩, ey]
                refine ⟨_, rfl, kq_ac, ?_, ?_, ?_⟩
                · rw [e]
                  exact (if_neg c_114).symm
                · rw [e]
                  rfl
                · rw [e]
                  rfl
            · (try dsimp only [Gs_M] at c_88)
              refine r_aload_n dX12_act_91 rfl rfl ?_
              refine r_iload dX12_act_92 rfl ?_
              refine r_iload_n dX12_act_94 rfl rfl ?_
              refine r_callV_dI (ci := 12) dX12_act_95 (s_partsC g (M := own1 M0 (nI jn)) (A := (M0 70, 0, 0)) (Nat.zero_le _) jn (by omega) rfl kd hkd x) mf_X12_partsAs mi_X12_partsAs se_X12_X12_X12_partsAs ml_X12_271 rfl rfl (Nat.le_of_ble_eq_true rfl) rfl (by decide) rfl (Nat.le_of_ble_eq_true rfl) ⟨(Nat.le_of_ble_eq_true rfl), (Nat.le_of_ble_eq_true rfl)⟩ ⟨(Nat.le_of_ble_eq_true rfl), (Nat.le_of_ble_eq_true rfl)⟩ ?_
              refine r_goto (tgt := 108) dX12_act_98 (by decide) ?_
              refine r_istore dX12_act_108 (by decide) ?_
              refine r_aload_n dX12_act_110 rfl rfl ?_
              refine r_getI dX12_act_111 (ci := 12) (kf := 26) rfl (Nat.le_of_ble_eq_true rfl) (by decide) (by decide) rfl fl_X12_274 (Or.inl rfl) ?_
              refine r_if_eq (tgt := 122) dX12_act_114 (by decide) (fun c_114 => ?_) (fun c_114 => ?_)
              · (try dsimp only [Gs_M] at c_114)
                refine r_iload dX12_act_122 rfl ?_
                refine r_iret dX12_act_124 rfl (Nat.le_refl _) ?_
                (try dsimp only [Gs_M])
                have ey : actY (M0 55) (M0 69) (nI ja) act x (M0 70) = prtK jn (M0 55 (16 + 11 * jn + 1)) kd x (M0 70, 0, 0) := by rw [actY, cl_nI (by omega), e69, cl_nI (by omega), ekd, cl_nI (by omega), actK, if_neg c_58, if_neg c_73, if_pos c_88]
                have e : actX (M0 55) (M0 68) (M0 69) (nI ja) act x (M0 70) = (if (prtK jn (M0 55 (16 + 11 * jn + 1)) kd x (M0 70, 0, 0)).2.2.2 = 0 then (prtK jn (M0 55 (16 + 11 * jn + 1)) kd x (M0 70, 0, 0)).1 else -15, (prtK jn (M0 55 (16 + 11 * jn + 1)) kd x (M0 70, 0, 0)).2.1, (prtK jn (M0 55 (16 + 11 * jn + 1)) kd x (M0 70, 0, 0)).2.2.1) := by rw [actX, if_pos ⟨c_9, c_18, by rw [cl_nI (by omega)]; exact c_26⟩, ey]
                refine ⟨_, rfl, kq_ac, ?_, ?_, ?_⟩
                · rw [e]
                  exact (if_pos c_114).symm
                · rw [e]
                  rfl
                · rw [e]
                  rfl
              · (try dsimp only [Gs_M] at c_114)
                refine r_bipush (v := (-15)) dX12_act_117 (by decide) ?_
                refine r_goto (tgt := 124) dX12_act_119 (by decide) ?_
                refine r_iret dX12_act_124 rfl (Nat.le_refl _) ?_
                (try dsimp only [Gs_M])
                have ey : actY (M0 55) (M0 69) (nI ja) act x (M0 70) = prtK jn (M0 55 (16 + 11 * jn + 1)) kd x (M0 70, 0, 0) := by rw [actY, cl_nI (by omega), e69, cl_nI (by omega), ekd, cl_nI (by omega), actK, if_neg c_58, if_neg c_73, if_pos c_88]
                have e : actX (M0 55) (M0 68) (M0 69) (nI ja) act x (M0 70) = (if (prtK jn (M0 55 (16 + 11 * jn + 1)) kd x (M0 70, 0, 0)).2.2.2 = 0 then (prtK jn (M0 55 (16 + 11 * jn + 1)) kd x (M0 70, 0, 0)).1 else -15, (prtK jn (M0 55 (16 + 11 * jn + 1)) kd x (M0 70, 0, 0)).2.1, (prtK jn (M0 55 (16 + 11 * jn + 1)) kd x (M0 70, 0, 0)).2.2.1) := by rw [actX, if_pos ⟨c_9, c_18, by rw [cl_nI (by omega)]; exact c_26⟩, ey]
                refine ⟨_, rfl, kq_ac, ?_, ?_, ?_⟩
                · rw [e]
                  exact (if_neg c_114).symm
                · rw [e]
                  rfl
                · rw [e]
                  rfl
          · (try dsimp only [Gs_M] at c_73)
            refine r_aload_n dX12_act_76 rfl rfl ?_
            refine r_iload dX12_act_77 rfl ?_
            refine r_iload_n dX12_act_79 rfl rfl ?_
            refine r_callV_dI (ci := 12) dX12_act_80 (s_singsC g (M := own1 M0 (nI jn)) (A := (M0 70, 0, 0)) (Nat.zero_le _) jn (by omega) rfl kd hkd ekd kd hkd x) mf_X12_singsAs mi_X12_singsAs se_X12_X12_X12_singsAs ml_X12_268 rfl rfl (Nat.le_of_ble_eq_true rfl) rfl (by decide) rfl (Nat.le_of_ble_eq_true rfl) ⟨(Nat.le_of_ble_eq_true rfl), (Nat.le_of_ble_eq_true rfl)⟩ ⟨(Nat.le_of_ble_eq_true rfl), (Nat.le_of_ble_eq_true rfl)⟩ ?_
            refine r_goto (tgt := 108) dX12_act_83 (by decide) ?_
            refine r_istore dX12_act_108 (by decide) ?_
            refine r_aload_n dX12_act_110 rfl rfl ?_
            refine r_getI dX12_act_111 (ci := 12) (kf := 26) rfl (Nat.le_of_ble_eq_true rfl) (by decide) (by decide) rfl fl_X12_274 (Or.inl rfl) ?_
            refine r_if_eq (tgt := 122) dX12_act_114 (by decide) (fun c_114 => ?_) (fun c_114 => ?_)
            · (try dsimp only [Gs_M] at c_114)
              refine r_iload dX12_act_122 rfl ?_
              refine r_iret dX12_act_124 rfl (Nat.le_refl _) ?_
              (try dsimp only [Gs_M])
              have ey : actY (M0 55) (M0 69) (nI ja) act x (M0 70) = sngK jn kd (M0 55 (16 + 11 * jn + 1)) kd x (M0 70, 0, 0) := by rw [actY, cl_nI (by omega), e69, cl_nI (by omega), ekd, cl_nI (by omega), actK, if_neg c_58, if_pos c_73]
              have e : actX (M0 55) (M0 68) (M0 69) (nI ja) act x (M0 70) = (if (sngK jn kd (M0 55 (16 + 11 * jn + 1)) kd x (M0 70, 0, 0)).2.2.2 = 0 then (sngK jn kd (M0 55 (16 + 11 * jn + 1)) kd x (M0 70, 0, 0)).1 else -15, (sngK jn kd (M0 55 (16 + 11 * jn + 1)) kd x (M0 70, 0, 0)).2.1, (sngK jn kd (M0 55 (16 + 11 * jn + 1)) kd x (M0 70, 0, 0)).2.2.1) := by rw [actX, if_pos ⟨c_9, c_18, by rw [cl_nI (by omega)]; exact c_26⟩, ey]
              refine ⟨_, rfl, kq_ac, ?_, ?_, ?_⟩
              · rw [e]
                exact (if_pos c_114).symm
              · rw [e]
                rfl
              · rw [e]
                rfl
            · (try dsimp only [Gs_M] at c_114)
              refine r_bipush (v := (-15)) dX12_act_117 (by decide) ?_
              refine r_goto (tgt := 124) dX12_act_119 (by decide) ?_
              refine r_iret dX12_act_124 rfl (Nat.le_refl _) ?_
              (try dsimp only [Gs_M])
              have ey : actY (M0 55) (M0 69) (nI ja) act x (M0 70) = sngK jn kd (M0 55 (16 + 11 * jn + 1)) kd x (M0 70, 0, 0) := by rw [actY, cl_nI (by omega), e69, cl_nI (by omega), ekd, cl_nI (by omega), actK, if_neg c_58, if_pos c_73]
              have e : actX (M0 55) (M0 68) (M0 69) (nI ja) act x (M0 70) = (if (sngK jn kd (M0 55 (16 + 11 * jn + 1)) kd x (M0 70, 0, 0)).2.2.2 = 0 then (sngK jn kd (M0 55 (16 + 11 * jn + 1)) kd x (M0 70, 0, 0)).1 else -15, (sngK jn kd (M0 55 (16 + 11 * jn + 1)) kd x (M0 70, 0, 0)).2.1, (sngK jn kd (M0 55 (16 + 11 * jn + 1)) kd x (M0 70, 0, 0)).2.2.1) := by rw [actX, if_pos ⟨c_9, c_18, by rw [cl_nI (by omega)]; exact c_26⟩, ey]
              refine ⟨_, rfl, kq_ac, ?_, ?_, ?_⟩
              · rw [e]
                exact (if_neg c_114).symm
              · rw [e]
                rfl
              · rw [e]
                rfl
        · (try dsimp only [Gs_M] at c_58)
          refine r_aload_n dX12_act_61 rfl rfl ?_
          refine r_iload dX12_act_62 rfl ?_
          refine r_iload_n dX12_act_64 rfl rfl ?_
          refine r_callV_dI (ci := 12) dX12_act_65 (s_bowsC g (M := own1 M0 (nI jn)) (A := (M0 70, 0, 0)) (Nat.zero_le _) jn (by omega) rfl kd hkd x) mf_X12_bowsAs mi_X12_bowsAs se_X12_X12_X12_bowsAs ml_X12_262 rfl rfl (Nat.le_of_ble_eq_true rfl) rfl (by decide) rfl (Nat.le_of_ble_eq_true rfl) ⟨(Nat.le_of_ble_eq_true rfl), (Nat.le_of_ble_eq_true rfl)⟩ ⟨(Nat.le_of_ble_eq_true rfl), (Nat.le_of_ble_eq_true rfl)⟩ ?_
          refine r_goto (tgt := 108) dX12_act_68 (by decide) ?_
          refine r_istore dX12_act_108 (by decide) ?_
          refine r_aload_n dX12_act_110 rfl rfl ?_
          refine r_getI dX12_act_111 (ci := 12) (kf := 26) rfl (Nat.le_of_ble_eq_true rfl) (by decide) (by decide) rfl fl_X12_274 (Or.inl rfl) ?_
          refine r_if_eq (tgt := 122) dX12_act_114 (by decide) (fun c_114 => ?_) (fun c_114 => ?_)
          · (try dsimp only [Gs_M] at c_114)
            refine r_iload dX12_act_122 rfl ?_
            refine r_iret dX12_act_124 rfl (Nat.le_refl _) ?_
            (try dsimp only [Gs_M])
            have ey : actY (M0 55) (M0 69) (nI ja) act x (M0 70) = bowK jn kd x (M0 70, 0, 0) := by rw [actY, cl_nI (by omega), e69, cl_nI (by omega), ekd, cl_nI (by omega), actK, if_pos c_58]
            have e : actX (M0 55) (M0 68) (M0 69) (nI ja) act x (M0 70) = (if (bowK jn kd x (M0 70, 0, 0)).2.2.2 = 0 then (bowK jn kd x (M0 70, 0, 0)).1 else -15, (bowK jn kd x (M0 70, 0, 0)).2.1, (bowK jn kd x (M0 70, 0, 0)).2.2.1) := by rw [actX, if_pos ⟨c_9, c_18, by rw [cl_nI (by omega)]; exact c_26⟩, ey]
            refine ⟨_, rfl, kq_ac, ?_, ?_, ?_⟩
            · rw [e]
              exact (if_pos c_114).symm
            · rw [e]
              rfl
            · rw [e]
              rfl
          · (try dsimp only [Gs_M] at c_114)
            refine r_bipush (v := (-15)) dX12_act_117 (by decide) ?_
            refine r_goto (tgt := 124) dX12_act_119 (by decide) ?_
            refine r_iret dX12_act_124 rfl (Nat.le_refl _) ?_
            (try dsimp only [Gs_M])
            have ey : actY (M0 55) (M0 69) (nI ja) act x (M0 70) = bowK jn kd x (M0 70, 0, 0) := by rw [actY, cl_nI (by omega), e69, cl_nI (by omega), ekd, cl_nI (by omega), actK, if_pos c_58]
            have e : actX (M0 55) (M0 68) (M0 69) (nI ja) act x (M0 70) = (if (bowK jn kd x (M0 70, 0, 0)).2.2.2 = 0 then (bowK jn kd x (M0 70, 0, 0)).1 else -15, (bowK jn kd x (M0 70, 0, 0)).2.1, (bowK jn kd x (M0 70, 0, 0)).2.2.1) := by rw [actX, if_pos ⟨c_9, c_18, by rw [cl_nI (by omega)]; exact c_26⟩, ey]
            refine ⟨_, rfl, kq_ac, ?_, ?_, ?_⟩
            · rw [e]
              exact (if_neg c_114).symm
            · rw [e]
              rfl
            · rw [e]
              rfl
      · (try dsimp only [Gs_M] at c_26)
        refine r_iconst (v := 0) dX12_act_29 (by decide) ?_
        refine r_iret dX12_act_30 rfl (Nat.le_refl _) ?_
        (try dsimp only [Gs_M])
        have e : actX (M0 55) (M0 68) (M0 69) (nI ja) act x (M0 70) = (0, M0 70, 0) := if_neg (fun z => c_26 (by have y := z.2.2; rw [cl_nI (by omega)] at y; exact y))
        refine ⟨_, rfl, (kq.rf hS).set (by decide), ?_, ?_, ?_⟩
        · rw [e]
        · rw [e]
          exact mSet_ne (by decide)
        · rw [e, mSet_at, pk_us]
          rfl
