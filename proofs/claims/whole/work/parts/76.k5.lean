/-! ===== sheets of the class and the reference's three rows ===== -/
abbrev lsK : List Nat := [34, 35, 36, 37, 38, 39, 40, 41]
theorem lsK_1 {j : Nat} (h : j < 4) : 34 + 2 * j ∈ lsK := by
  rcases (by omega : j = 0 ∨ j = 1 ∨ j = 2 ∨ j = 3) with rfl | rfl | rfl | rfl <;> decide
theorem lsK_2 {j : Nat} (h : j < 4) : 34 + 2 * j + 1 ∈ lsK := by
  rcases (by omega : j = 0 ∨ j = 1 ∨ j = 2 ∨ j = 3) with rfl | rfl | rfl | rfl <;> decide
def ShV (so sz : Nat → Int32) : Prop := ∀ j, j < 4 → (so j = -1 ∨ ∃ s, s ≤ 3 ∧ so j = nI s) ∧ ∃ n, n ≤ 40 ∧ sz j = nI n
def ShR (S : pS) (so sz it : Nat → Int32) : Prop := ∀ j, j < 4 → S.2.2.2 (34 + 2 * j) 0 = so j ∧ S.2.2.2 (34 + 2 * j) 1 = sz j ∧ ∀ i, i < 40 → S.2.2.2 (34 + 2 * j + 1) i = it (40 * j + i)
theorem ShR.fr {S S' : pS} {so sz it : Nat → Int32} (h : ShR S so sz it) {J : List Nat} (hf : fr J S S') (hJ : ∀ j, j < 4 → 34 + 2 * j ∉ J ∧ 34 + 2 * j + 1 ∉ J) : ShR S' so sz it := fun j hj => by
  rw [hf.2 _ (hJ j hj).1, hf.2 _ (hJ j hj).2]
  exact h j hj
theorem so_neg {so sz : Nat → Int32} (h : ShV so sz) {j : Nat} (hj : j < 4) : so j < 0 ↔ so j = -1 := by
  rcases (h j hj).1 with e | ⟨s, hs, e⟩
  · exact ⟨fun _ => e, fun _ => by rw [e]; decide⟩
  · exact ⟨fun z => absurd (e ▸ z) (nI_pos (by omega)), fun z => by rw [z]; decide⟩
theorem lt_iff {w x : Int32} {n : Nat} (h : n < 2 ^ 30) (hw : w = nI n) : x < w ↔ x ≤ w - 1 := by
  rw [← pl_iff h hw, Int32.not_le]
set_option maxRecDepth 20000 in
set_option maxHeartbeats 1000000 in
theorem s_X11_put (g : pG) {S : pS} (hS : sOk S) {so sz it : Nat → Int32} (hV : ShV so sz) (hR : ShR S so sz it) (a i v : Int32) : MS g mX11_put 2 0 0 [.ref 0, .int a, .int i, .int v] (S) (eI (fun rx S1 => rx = putX so sz a i ∧ fr lsK (S) S1 ∧ ShR S1 so sz (putI so sz it a i v))) := by
  obtain ⟨M0, rfl⟩ := sOk_gs hS
  refine MS.of pn_X11 (Nat.le_of_ble_eq_true rfl) ?_
  refine r_iload_n dX11_put_0 rfl rfl ?_
  refine r_callS_dI dX11_put_1 (s_X11_isSheet g _ _) mf_X11_isSheet mt_X11_isSheet ml_X11_237 rfl rfl (Nat.le_of_ble_eq_true rfl) ⟨(Nat.le_of_ble_eq_true rfl), (Nat.le_of_ble_eq_true rfl)⟩ ⟨(Nat.le_of_ble_eq_true rfl), (Nat.le_of_ble_eq_true rfl)⟩ ?_
  refine r_if_ne (tgt := 9) dX11_put_4 (by decide) (fun c_4 => ?_) (fun c_4 => ?_)
  · have c_4 := bI_n c_4
    (try dsimp only [Gs_M] at c_4)
    obtain ⟨ja, hja, rfl⟩ := rng (x := a) 3 (by decide) c_4
    obtain ⟨e_so, e_sz, e_it⟩ := hR ja (by omega)
    obtain ⟨n, hn, en⟩ := (hV ja (by omega)).2
    have e_so : (Gs M0).2.2.2 (34 + 2 * ja) 0 = so ja := e_so
    have e_sz : (Gs M0).2.2.2 (34 + 2 * ja) 1 = sz ja := e_sz
    refine r_aload_n dX11_put_9 rfl rfl ?_
    refine r_getR (q := 33) dX11_put_10 (ci := 11) (kf := 9) rfl (Nat.le_of_ble_eq_true rfl) (by decide) (by decide) rfl fl_X11_48 (Or.inl rfl) rfl ?_
    refine r_iload_n dX11_put_13 rfl rfl ?_
    refine r_aaldS (q := (34 + 2 * ja)) (j := ja) dX11_put_14 rfl (Nat.le_of_ble_eq_true rfl) rfl (by omega) (by decide) (rf33 (by omega)) ?_
    refine r_astore dX11_put_15 (by decide) ?_
    refine r_aload dX11_put_17 rfl ?_
    refine r_getI dX11_put_19 (ci := 6) (kf := 0) (ShG (show ja < 4 by omega)).2.1 (Sh_lt (ShG (show ja < 4 by omega))) (by decide) (by decide) rfl fl_X11_240 (Or.inl rfl) ?_
    rw [e_so]
    refine r_iconst (v := (-1)) dX11_put_22 (by decide) ?_
    refine r_icmp_ne (tgt := 29) dX11_put_23 (by decide) (fun c_23 => ?_) (fun c_23 => ?_)
    · (try dsimp only [Gs_M] at c_23)
      refine r_iload_n dX11_put_29 rfl rfl ?_
      refine r_if_lt (tgt := 42) dX11_put_30 (by decide) (fun c_30 => ?_) (fun c_30 => ?_)
      · (try dsimp only [Gs_M] at c_30)
        refine r_bipush (v := (-12)) dX11_put_42 (by decide) ?_
        refine r_iret dX11_put_44 rfl (Nat.le_refl _) ?_
        (try dsimp only [Gs_M])
        refine ⟨_, rfl, ?_, fr.rf, ?_⟩
        · rw [putX, if_pos c_4, cl_nI (by omega), if_neg (fun z => c_23 ((so_neg hV (by omega)).mp z)), if_neg (fun y => Int32.not_lt.mpr y.1 c_30)]
        · rw [putI, if_neg (fun z => by have y := z.2.2; rw [cl_nI (by omega)] at y; exact Int32.not_lt.mpr y.1 c_30)]
          exact hR
      · (try dsimp only [Gs_M] at c_30)
        refine r_iload_n dX11_put_33 rfl rfl ?_
        refine r_aload dX11_put_34 rfl ?_
        refine r_getI dX11_put_36 (ci := 6) (kf := 1) (ShG (show ja < 4 by omega)).2.1 (Sh_lt (ShG (show ja < 4 by omega))) (by decide) (by decide) rfl fl_X11_274 (Or.inl rfl) ?_
        rw [e_sz]
        refine r_icmp_lt (tgt := 45) dX11_put_39 (by decide) (fun c_39 => ?_) (fun c_39 => ?_)
        · (try dsimp only [Gs_M] at c_39)
          obtain ⟨ji, hji, rfl⟩ := rng40 (x := i) (w := sz ja) ⟨Int32.not_lt.mp c_30, (lt_iff (by omega) en).mp c_39⟩ hn en
          refine r_aload dX11_put_45 rfl ?_
          refine r_getR (q := ((34 + 2 * ja) + 1)) dX11_put_47 (ci := 6) (kf := 2) (ShG (show ja < 4 by omega)).2.1 (Sh_lt (ShG (show ja < 4 by omega))) (by decide) (by decide) rfl fl_X11_277 (Or.inl rfl) (ShG (show ja < 4 by omega)).2.2.2 ?_
          refine r_iload_n dX11_put_50 rfl rfl ?_
          refine r_aload dX11_put_51 rfl ?_
          refine r_iload_n dX11_put_53 rfl rfl ?_
          refine r_callV_dI (ci := 6) dX11_put_54 (s_X6_narrowed g (ShG (show ja < 4 by omega)) _) mf_X6_narrowed mi_X6_narrowed se_X6_X6_X6_narrowed ml_X11_284 rfl rfl (Sh_lt (ShG (show ja < 4 by omega))) (ShG (show ja < 4 by omega)).2.1 (by decide) rfl (Nat.le_of_ble_eq_true rfl) ⟨(Nat.le_of_ble_eq_true rfl), (Nat.le_of_ble_eq_true rfl)⟩ ⟨(Nat.le_of_ble_eq_true rfl), (Nat.le_of_ble_eq_true rfl)⟩ ?_
          rw [e_so]
          refine r_iast (j := ji) dX11_put_57 (ShG (show ja < 4 by omega)).2.2.1 (ShG (show ja < 4 by omega)).1 rfl (by omega) (by decide) ?_
          refine r_iconst (v := 1) dX11_put_58 (by decide) ?_
          refine r_iret dX11_put_59 rfl (Nat.le_refl _) ?_
          (try dsimp only [Gs_M])
          have hA : putA so sz (nI ja) (nI ji) := ⟨c_4, by rw [cl_nI (by omega)]; exact (fun z => c_23 ((so_neg hV (by omega)).mp z)), by rw [cl_nI (by omega)]; exact ⟨Int32.not_lt.mp c_30, (lt_iff (by omega) en).mp c_39⟩⟩
          refine ⟨_, rfl, ?_, fr.rf.set (lsK_2 (j := ja) (by omega)), ?_⟩
          · have hB := hA.2.2
            rw [putX, if_pos c_4, if_neg hA.2.1, if_pos hB]
          · rw [putI, if_pos hA, cl_nI (by omega), cl_nI (by omega)]
            intro j hj
            obtain ⟨h1, h2, h3⟩ := hR j hj
            refine ⟨(congrFun (mSet_ne (by omega)) 0).trans h1, (congrFun (mSet_ne (by omega)) 1).trans h2, fun y hy => ?_⟩
            by_cases e : j = ja
            · subst e
              rw [mSet_at]
              unfold upd
              by_cases e2 : y = ji
              · rw [if_pos e2, if_pos (by omega)]
                rfl
              · rw [if_neg e2, if_neg (by omega)]
                exact h3 y hy
            · rw [mSet_ne (by omega), pk_un (by omega)]
              exact h3 y hy
        · (try dsimp only [Gs_M] at c_39)
          refine r_bipush (v := (-12)) dX11_put_42 (by decide) ?_
          refine r_iret dX11_put_44 rfl (Nat.le_refl _) ?_
          (try dsimp only [Gs_M])
          refine ⟨_, rfl, ?_, fr.rf, ?_⟩
          · rw [putX, if_pos c_4, cl_nI (by omega), if_neg (fun z => c_23 ((so_neg hV (by omega)).mp z)), if_neg (fun y => c_39 ((lt_iff (by omega) en).mpr y.2))]
          · rw [putI, if_neg (fun z => by have y := z.2.2; rw [cl_nI (by omega)] at y; exact c_39 ((lt_iff (by omega) en).mpr y.2))]
            exact hR
    · (try dsimp only [Gs_M] at c_23)
      refine r_bipush (v := (-11)) dX11_put_26 (by decide) ?_
      refine r_iret dX11_put_28 rfl (Nat.le_refl _) ?_
      (try dsimp only [Gs_M])
      refine ⟨_, rfl, ?_, fr.rf, ?_⟩
      · rw [putX, if_pos c_4, cl_nI (by omega), if_pos (by rw [c_23]; decide)]
      · rw [putI, if_neg (fun z => by have y := z.2.1; rw [cl_nI (by omega)] at y; exact y (by rw [c_23]; decide))]
        exact hR
  · have c_4 := bI_0 c_4
    (try dsimp only [Gs_M] at c_4)
    refine r_iconst (v := (-1)) dX11_put_7 (by decide) ?_
    refine r_iret dX11_put_8 rfl (Nat.le_refl _) ?_
    (try dsimp only [Gs_M])
    refine ⟨_, rfl, ?_, fr.rf, ?_⟩
    · rw [putX, if_neg c_4]
    · rw [putI, if_neg (fun z => c_4 z.1)]
      exact hR
set_option maxRecDepth 20000 in
set_option maxHeartbeats 1000000 in
theorem s_X11_item (g : pG) {S : pS} (hS : sOk S) {so sz it : Nat → Int32} (hV : ShV so sz) (hR : ShR S so sz it) (a s i : Int32) : MS g mX11_item 2 0 0 [.ref 0, .int a, .int s, .int i] (S) (eI (fun rx S1 => rx = itemX so sz it a s i ∧ fr [] (S) S1)) := by
  obtain ⟨M0, rfl⟩ := sOk_gs hS
  refine MS.of pn_X11 (Nat.le_of_ble_eq_true rfl) ?_
  refine r_iload_n dX11_item_0 rfl rfl ?_
  refine r_callS_dI dX11_item_1 (s_X11_isSheet g _ _) mf_X11_isSheet mt_X11_isSheet ml_X11_237 rfl rfl (Nat.le_of_ble_eq_true rfl) ⟨(Nat.le_of_ble_eq_true rfl), (Nat.le_of_ble_eq_true rfl)⟩ ⟨(Nat.le_of_ble_eq_true rfl), (Nat.le_of_ble_eq_true rfl)⟩ ?_
  refine r_if_eq (tgt := 16) dX11_item_4 (by decide) (fun c_4 => ?_) (fun c_4 => ?_)
  · have c_4 := bI_0 c_4
    (try dsimp only [Gs_M] at c_4)
    refine r_iconst (v := (-1)) dX11_item_16 (by decide) ?_
    refine r_iret dX11_item_17 rfl (Nat.le_refl _) ?_
    (try dsimp only [Gs_M])
    refine ⟨_, rfl, ?_, fr.rf⟩
    rw [itemX, if_neg (fun z => c_4 z.1)]
  · have c_4 := bI_n c_4
    (try dsimp only [Gs_M] at c_4)
    refine r_iload_n dX11_item_7 rfl rfl ?_
    refine r_if_lt (tgt := 16) dX11_item_8 (by decide) (fun c_8 => ?_) (fun c_8 => ?_)
    · (try dsimp only [Gs_M] at c_8)
      refine r_iconst (v := (-1)) dX11_item_16 (by decide) ?_
      refine r_iret dX11_item_17 rfl (Nat.le_refl _) ?_
      (try dsimp only [Gs_M])
      refine ⟨_, rfl, ?_, fr.rf⟩
      rw [itemX, if_neg (fun z => Int32.not_lt.mpr z.2.1 c_8)]
    · (try dsimp only [Gs_M] at c_8)
      refine r_iload_n dX11_item_11 rfl rfl ?_
      refine r_iconst (v := 4) dX11_item_12 (by decide) ?_
      refine r_icmp_lt (tgt := 18) dX11_item_13 (by decide) (fun c_13 => ?_) (fun c_13 => ?_)
      · (try dsimp only [Gs_M] at c_13)
        obtain ⟨ja, hja, rfl⟩ := rng (x := a) 3 (by decide) c_4
        obtain ⟨e_so, e_sz, e_it⟩ := hR ja (by omega)
        obtain ⟨n, hn, en⟩ := (hV ja (by omega)).2
        have e_so : (Gs M0).2.2.2 (34 + 2 * ja) 0 = so ja := e_so
        have e_sz : (Gs M0).2.2.2 (34 + 2 * ja) 1 = sz ja := e_sz
        refine r_aload_n dX11_item_18 rfl rfl ?_
        refine r_getR (q := 33) dX11_item_19 (ci := 11) (kf := 9) rfl (Nat.le_of_ble_eq_true rfl) (by decide) (by decide) rfl fl_X11_48 (Or.inl rfl) rfl ?_
        refine r_iload_n dX11_item_22 rfl rfl ?_
        refine r_aaldS (q := (34 + 2 * ja)) (j := ja) dX11_item_23 rfl (Nat.le_of_ble_eq_true rfl) rfl (by omega) (by decide) (rf33 (by omega)) ?_
        refine r_astore dX11_item_24 (by decide) ?_
        refine r_aload dX11_item_26 rfl ?_
        refine r_getI dX11_item_28 (ci := 6) (kf := 0) (ShG (show ja < 4 by omega)).2.1 (Sh_lt (ShG (show ja < 4 by omega))) (by decide) (by decide) rfl fl_X11_240 (Or.inl rfl) ?_
        rw [e_so]
        refine r_iconst (v := (-1)) dX11_item_31 (by decide) ?_
        refine r_icmp_ne (tgt := 38) dX11_item_32 (by decide) (fun c_32 => ?_) (fun c_32 => ?_)
        · (try dsimp only [Gs_M] at c_32)
          refine r_aload dX11_item_38 rfl ?_
          refine r_getI dX11_item_40 (ci := 6) (kf := 0) (ShG (show ja < 4 by omega)).2.1 (Sh_lt (ShG (show ja < 4 by omega))) (by decide) (by decide) rfl fl_X11_240 (Or.inl rfl) ?_
          rw [e_so]
          refine r_iload_n dX11_item_43 rfl rfl ?_
          refine r_icmp_eq (tgt := 50) dX11_item_44 (by decide) (fun c_44 => ?_) (fun c_44 => ?_)
          · (try dsimp only [Gs_M] at c_44)
            refine r_iload_n dX11_item_50 rfl rfl ?_
            refine r_if_lt (tgt := 73) dX11_item_51 (by decide) (fun c_51 => ?_) (fun c_51 => ?_)
            · (try dsimp only [Gs_M] at c_51)
              refine r_bipush (v := (-12)) dX11_item_73 (by decide) ?_
              refine r_iret dX11_item_75 rfl (Nat.le_refl _) ?_
              (try dsimp only [Gs_M])
              refine ⟨_, rfl, ?_, fr.rf⟩
              rw [itemX, if_pos ⟨c_4, ⟨Int32.not_lt.mp c_8, i_pred 3 (by omega) (Int32.not_le.mpr c_13)⟩⟩, cl_nI (by omega), if_neg (fun z => c_32 ((so_neg hV (by omega)).mp z)), if_pos c_44, if_neg (fun z => Int32.not_lt.mpr z.1 c_51)]
            · (try dsimp only [Gs_M] at c_51)
              refine r_iload_n dX11_item_54 rfl rfl ?_
              refine r_aload dX11_item_55 rfl ?_
              refine r_getI dX11_item_57 (ci := 6) (kf := 1) (ShG (show ja < 4 by omega)).2.1 (Sh_lt (ShG (show ja < 4 by omega))) (by decide) (by decide) rfl fl_X11_274 (Or.inl rfl) ?_
              rw [e_sz]
              refine r_icmp_ge (tgt := 73) dX11_item_60 (by decide) (fun c_60 => ?_) (fun c_60 => ?_)
              · (try dsimp only [Gs_M] at c_60)
                refine r_bipush (v := (-12)) dX11_item_73 (by decide) ?_
                refine r_iret dX11_item_75 rfl (Nat.le_refl _) ?_
                (try dsimp only [Gs_M])
                refine ⟨_, rfl, ?_, fr.rf⟩
                rw [itemX, if_pos ⟨c_4, ⟨Int32.not_lt.mp c_8, i_pred 3 (by omega) (Int32.not_le.mpr c_13)⟩⟩, cl_nI (by omega), if_neg (fun z => c_32 ((so_neg hV (by omega)).mp z)), if_pos c_44, if_neg (fun z => Int32.not_lt.mpr c_60 ((lt_iff (by omega) en).mpr z.2))]
              · (try dsimp only [Gs_M] at c_60)
                obtain ⟨ji, hji, rfl⟩ := rng40 (x := i) (w := sz ja) ⟨Int32.not_lt.mp c_51, (lt_iff (by omega) en).mp (Int32.not_le.mp c_60)⟩ hn en
                refine r_aload dX11_item_63 rfl ?_
                refine r_getR (q := ((34 + 2 * ja) + 1)) dX11_item_65 (ci := 6) (kf := 2) (ShG (show ja < 4 by omega)).2.1 (Sh_lt (ShG (show ja < 4 by omega))) (by decide) (by decide) rfl fl_X11_277 (Or.inl rfl) (ShG (show ja < 4 by omega)).2.2.2 ?_
                refine r_iload_n dX11_item_68 rfl rfl ?_
                refine r_iald (j := ji) dX11_item_69 (ShG (show ja < 4 by omega)).2.2.1 (ShG (show ja < 4 by omega)).1 rfl (by omega) (by decide) ?_
                refine r_goto (tgt := 75) dX11_item_70 (by decide) ?_
                refine r_iret dX11_item_75 rfl (Nat.le_refl _) ?_
                (try dsimp only [Gs_M])
                refine ⟨_, rfl, ?_, fr.rf⟩
                rw [itemX, if_pos ⟨c_4, ⟨Int32.not_lt.mp c_8, i_pred 3 (by omega) (Int32.not_le.mpr c_13)⟩⟩, cl_nI (by omega), if_neg (fun z => c_32 ((so_neg hV (by omega)).mp z)), if_pos c_44, if_pos ⟨Int32.not_lt.mp c_51, (lt_iff (by omega) en).mp (Int32.not_le.mp c_60)⟩, cl_nI (by omega)]
                exact e_it ji (by omega)
          · (try dsimp only [Gs_M] at c_44)
            refine r_bipush (v := (-13)) dX11_item_47 (by decide) ?_
            refine r_iret dX11_item_49 rfl (Nat.le_refl _) ?_
            (try dsimp only [Gs_M])
            refine ⟨_, rfl, ?_, fr.rf⟩
            rw [itemX, if_pos ⟨c_4, ⟨Int32.not_lt.mp c_8, i_pred 3 (by omega) (Int32.not_le.mpr c_13)⟩⟩, cl_nI (by omega), if_neg (fun z => c_32 ((so_neg hV (by omega)).mp z)), if_neg c_44]
        · (try dsimp only [Gs_M] at c_32)
          refine r_bipush (v := (-11)) dX11_item_35 (by decide) ?_
          refine r_iret dX11_item_37 rfl (Nat.le_refl _) ?_
          (try dsimp only [Gs_M])
          refine ⟨_, rfl, ?_, fr.rf⟩
          rw [itemX, if_pos ⟨c_4, ⟨Int32.not_lt.mp c_8, i_pred 3 (by omega) (Int32.not_le.mpr c_13)⟩⟩, cl_nI (by omega), if_pos (by rw [c_32]; decide)]
      · (try dsimp only [Gs_M] at c_13)
        refine r_iconst (v := (-1)) dX11_item_16 (by decide) ?_
        refine r_iret dX11_item_17 rfl (Nat.le_refl _) ?_
        (try dsimp only [Gs_M])
        refine ⟨_, rfl, ?_, fr.rf⟩
        rw [itemX, if_neg (fun z => i_no 3 (by omega) (Int32.not_lt.mp c_13) z.2.2)]
theorem m1_iff {so : Int32} (h : ¬ so < -1) : so < 0 ↔ so = -1 := by
  constructor
  · intro z
    apply Int32.toInt_inj.mp
    rw [Int32.lt_iff_toInt_lt] at z h
    have e1 : (-1 : Int32).toInt = -1 := rfl
    have e0 : (0 : Int32).toInt = 0 := rfl
    rw [e1] at h ⊢
    rw [e0] at z
    omega
  · intro z; rw [z]; decide
theorem zrR_e {f : Nat → Int32} {b : Nat} : ∀ n i, zrR f b n i = if b ≤ i ∧ i < b + n then 0 else f i
  | 0, i => by rw [if_neg (by omega)]; rfl
  | n + 1, i => by
    rw [zrR]
    unfold upd
    rw [zrR_e n i]
    (repeat' split) <;> first | rfl | (exfalso; omega)
theorem sheet_ok {S S1 : pS} {so sz it : Nat → Int32} {a s n m : Int32} {ja : Nat} (hR : ShR S so sz it) (hja : ja < 4) (ea : a = nI ja) (hB : shB a s n) (hm : m = if s < 0 then 0 else n) (hf : fr [34 + 2 * ja, 34 + 2 * ja + 1] S S1) (h1 : S1.2.2.2 (34 + 2 * ja) = upd (upd (S.2.2.2 (34 + 2 * ja)) 0 s) 1 m) (h2 : ∀ i, i < 40 → S1.2.2.2 (34 + 2 * ja + 1) i = 0) : fr lsK S S1 ∧ ShR S1 (sheetS so a s n) (sheetN sz a s n) (sheetI it a s n) := by
  refine ⟨hf.mono (fun q hq => ?_), ?_⟩
  · rcases List.mem_cons.mp hq with e | hq
    · rw [e]; exact lsK_1 hja
    · rw [List.mem_singleton.mp hq]; exact lsK_2 hja
  · rw [sheetS, sheetN, sheetI, if_pos hB, if_pos hB, if_pos hB, ea, cl_nI (by omega)]
    intro j hj
    obtain ⟨r1, r2, r3⟩ := hR j hj
    by_cases e : j = ja
    · subst e
      rw [h1, pk_us, pk_us, ← hm]
      refine ⟨?_, pk_us.symm, fun i hi => ?_⟩
      · rw [pk_un (by omega), pk_us]
      · rw [h2 i hi, zrR_e, if_pos (by omega)]
    · rw [hf.2 (34 + 2 * j) (by simp; omega), hf.2 (34 + 2 * j + 1) (by simp; omega), pk_un e, pk_un e]
      refine ⟨r1, r2, fun i hi => ?_⟩
      rw [r3 i hi, zrR_e, if_neg (by omega)]
set_option maxRecDepth 20000 in
set_option maxHeartbeats 1000000 in
theorem s_X11_sheet (g : pG) {S : pS} (hS : sOk S) {so sz it : Nat → Int32} (hV : ShV so sz) (hR : ShR S so sz it) (a s n : Int32) : MS g mX11_sheet 2 0 0 [.ref 0, .int a, .int s, .int n] (S) (eI (fun rx S1 => rx = sheetX a s n ∧ fr lsK (S) S1 ∧ ShR S1 (sheetS so a s n) (sheetN sz a s n) (sheetI it a s n))) := by
  obtain ⟨M0, rfl⟩ := sOk_gs hS
  refine MS.of pn_X11 (Nat.le_of_ble_eq_true rfl) ?_
  refine r_iload_n dX11_sheet_0 rfl rfl ?_
  refine r_callS_dI dX11_sheet_1 (s_X11_isSheet g _ _) mf_X11_isSheet mt_X11_isSheet ml_X11_237 rfl rfl (Nat.le_of_ble_eq_true rfl) ⟨(Nat.le_of_ble_eq_true rfl), (Nat.le_of_ble_eq_true rfl)⟩ ⟨(Nat.le_of_ble_eq_true rfl), (Nat.le_of_ble_eq_true rfl)⟩ ?_
  refine r_if_eq (tgt := 17) dX11_sheet_4 (by decide) (fun c_4 => ?_) (fun c_4 => ?_)
  · have c_4 := bI_0 c_4
    (try dsimp only [Gs_M] at c_4)
    refine r_iconst (v := (-1)) dX11_sheet_17 (by decide) ?_
    refine r_iret dX11_sheet_18 rfl (Nat.le_refl _) ?_
    (try dsimp only [Gs_M])
    refine ⟨_, rfl, ?_, fr.rf, ?_⟩
    · rw [sheetX, if_neg (fun z => c_4 z.1)]
    · rw [sheetS, sheetN, sheetI, if_neg (fun z => (fun z : shA a s n => c_4 z.1) z.1), if_neg (fun z => (fun z : shA a s n => c_4 z.1) z.1), if_neg (fun z => (fun z : shA a s n => c_4 z.1) z.1)]
      exact hR
  · have c_4 := bI_n c_4
    (try dsimp only [Gs_M] at c_4)
    refine r_iload_n dX11_sheet_7 rfl rfl ?_
    refine r_iconst (v := (-1)) dX11_sheet_8 (by decide) ?_
    refine r_icmp_lt (tgt := 17) dX11_sheet_9 (by decide) (fun c_9 => ?_) (fun c_9 => ?_)
    · (try dsimp only [Gs_M] at c_9)
      refine r_iconst (v := (-1)) dX11_sheet_17 (by decide) ?_
      refine r_iret dX11_sheet_18 rfl (Nat.le_refl _) ?_
      (try dsimp only [Gs_M])
      refine ⟨_, rfl, ?_, fr.rf, ?_⟩
      · rw [sheetX, if_neg (fun z => absurd z.2.1.1 (Int32.not_le.mpr c_9))]
      · rw [sheetS, sheetN, sheetI, if_neg (fun z => (fun z : shA a s n => absurd z.2.1.1 (Int32.not_le.mpr c_9)) z.1), if_neg (fun z => (fun z : shA a s n => absurd z.2.1.1 (Int32.not_le.mpr c_9)) z.1), if_neg (fun z => (fun z : shA a s n => absurd z.2.1.1 (Int32.not_le.mpr c_9)) z.1)]
        exact hR
    · (try dsimp only [Gs_M] at c_9)
      refine r_iload_n dX11_sheet_12 rfl rfl ?_
      refine r_iconst (v := 4) dX11_sheet_13 (by decide) ?_
      refine r_icmp_lt (tgt := 19) dX11_sheet_14 (by decide) (fun c_14 => ?_) (fun c_14 => ?_)
      · (try dsimp only [Gs_M] at c_14)
        obtain ⟨ja, hja, rfl⟩ := rng (x := a) 3 (by decide) c_4
        refine r_iload_n dX11_sheet_19 rfl rfl ?_
        refine r_iconst (v := (-1)) dX11_sheet_20 (by decide) ?_
        refine r_icmp_eq (tgt := 32) dX11_sheet_21 (by decide) (fun c_21 => ?_) (fun c_21 => ?_)
        · (try dsimp only [Gs_M] at c_21)
          refine r_iload_n dX11_sheet_32 rfl rfl ?_
          refine r_iconst (v := (-1)) dX11_sheet_33 (by decide) ?_
          refine r_icmp_eq (tgt := 44) dX11_sheet_34 (by decide) (fun c_34 => ?_) (fun c_34 => ?_)
          · (try dsimp only [Gs_M] at c_34)
            refine r_aload_n dX11_sheet_44 rfl rfl ?_
            refine r_getR (q := 33) dX11_sheet_45 (ci := 11) (kf := 9) rfl (Nat.le_of_ble_eq_true rfl) (by decide) (by decide) rfl fl_X11_48 (Or.inl rfl) rfl ?_
            refine r_iload_n dX11_sheet_48 rfl rfl ?_
            refine r_aaldS (q := (34 + 2 * ja)) (j := ja) dX11_sheet_49 rfl (Nat.le_of_ble_eq_true rfl) rfl (by omega) (by decide) (rf33 (by omega)) ?_
            refine r_iload_n dX11_sheet_50 rfl rfl ?_
            refine r_iload_n dX11_sheet_51 rfl rfl ?_
            refine r_iconst (v := (-1)) dX11_sheet_52 (by decide) ?_
            refine r_icmp_ne (tgt := 60) dX11_sheet_53 (by decide) (fun c_53 => ?_) (fun c_53 => ?_)
            · (try dsimp only [Gs_M] at c_53)
              exact absurd c_34 c_53
            · (try dsimp only [Gs_M] at c_53)
              refine r_iconst (v := 0) dX11_sheet_56 (by decide) ?_
              refine r_goto (tgt := 61) dX11_sheet_57 (by decide) ?_
              refine r_callV_eV (ci := 6) dX11_sheet_61 (s_X6_become g (ShG (show ja < 4 by omega)) _ _) mf_X6_become mi_X6_become se_X6_X6_X6_become ml_X11_280 rfl rfl (Sh_lt (ShG (show ja < 4 by omega))) (ShG (show ja < 4 by omega)).2.1 (by decide) rfl (Nat.le_of_ble_eq_true rfl) ⟨(Nat.le_of_ble_eq_true rfl), (Nat.le_of_ble_eq_true rfl)⟩ ⟨(Nat.le_of_ble_eq_true rfl), (Nat.le_of_ble_eq_true rfl)⟩ (fun S_61 q_61 z_61 => ?_)
              refine r_iconst (v := 1) dX11_sheet_64 (by decide) ?_
              refine r_iret dX11_sheet_65 rfl (Nat.le_refl _) ?_
              (try dsimp only [Gs_M])
              have hA : shA (nI ja) s n := ⟨c_4, ⟨Int32.not_lt.mp c_9, i_pred 3 (by omega) (Int32.not_le.mpr c_14)⟩, Or.inl ((m1_iff c_9).mpr c_21)⟩
              have nb : ¬ (¬ s < 0 ∧ n < 0) := fun y => y.1 ((m1_iff c_9).mpr c_34)
              refine ⟨_, rfl, ?_, sheet_ok hR (by omega) rfl ⟨hA, nb⟩ (if_pos ((m1_iff c_9).mpr c_53)).symm q_61.1 q_61.2.1 q_61.2.2⟩
              rw [sheetX, if_pos hA, if_neg nb]
          · (try dsimp only [Gs_M] at c_34)
            exact absurd c_21 c_34
        · (try dsimp only [Gs_M] at c_21)
          refine r_iload_n dX11_sheet_24 rfl rfl ?_
          refine r_bipush (v := 40) dX11_sheet_25 (by decide) ?_
          refine r_icmp_le (tgt := 32) dX11_sheet_27 (by decide) (fun c_27 => ?_) (fun c_27 => ?_)
          · (try dsimp only [Gs_M] at c_27)
            refine r_iload_n dX11_sheet_32 rfl rfl ?_
            refine r_iconst (v := (-1)) dX11_sheet_33 (by decide) ?_
            refine r_icmp_eq (tgt := 44) dX11_sheet_34 (by decide) (fun c_34 => ?_) (fun c_34 => ?_)
            · (try dsimp only [Gs_M] at c_34)
              exact absurd c_34 c_21
            · (try dsimp only [Gs_M] at c_34)
              refine r_iload_n dX11_sheet_37 rfl rfl ?_
              refine r_if_ge (tgt := 44) dX11_sheet_38 (by decide) (fun c_38 => ?_) (fun c_38 => ?_)
              · (try dsimp only [Gs_M] at c_38)
                refine r_aload_n dX11_sheet_44 rfl rfl ?_
                refine r_getR (q := 33) dX11_sheet_45 (ci := 11) (kf := 9) rfl (Nat.le_of_ble_eq_true rfl) (by decide) (by decide) rfl fl_X11_48 (Or.inl rfl) rfl ?_
                refine r_iload_n dX11_sheet_48 rfl rfl ?_
                refine r_aaldS (q := (34 + 2 * ja)) (j := ja) dX11_sheet_49 rfl (Nat.le_of_ble_eq_true rfl) rfl (by omega) (by decide) (rf33 (by omega)) ?_
                refine r_iload_n dX11_sheet_50 rfl rfl ?_
                refine r_iload_n dX11_sheet_51 rfl rfl ?_
                refine r_iconst (v := (-1)) dX11_sheet_52 (by decide) ?_
                refine r_icmp_ne (tgt := 60) dX11_sheet_53 (by decide) (fun c_53 => ?_) (fun c_53 => ?_)
                · (try dsimp only [Gs_M] at c_53)
                  refine r_iload_n dX11_sheet_60 rfl rfl ?_
                  refine r_callV_eV (ci := 6) dX11_sheet_61 (s_X6_become g (ShG (show ja < 4 by omega)) _ _) mf_X6_become mi_X6_become se_X6_X6_X6_become ml_X11_280 rfl rfl (Sh_lt (ShG (show ja < 4 by omega))) (ShG (show ja < 4 by omega)).2.1 (by decide) rfl (Nat.le_of_ble_eq_true rfl) ⟨(Nat.le_of_ble_eq_true rfl), (Nat.le_of_ble_eq_true rfl)⟩ ⟨(Nat.le_of_ble_eq_true rfl), (Nat.le_of_ble_eq_true rfl)⟩ (fun S_61 q_61 z_61 => ?_)
                  refine r_iconst (v := 1) dX11_sheet_64 (by decide) ?_
                  refine r_iret dX11_sheet_65 rfl (Nat.le_refl _) ?_
                  (try dsimp only [Gs_M])
                  have hA : shA (nI ja) s n := ⟨c_4, ⟨Int32.not_lt.mp c_9, i_pred 3 (by omega) (Int32.not_le.mpr c_14)⟩, Or.inr c_27⟩
                  have nb : ¬ (¬ s < 0 ∧ n < 0) := fun y => absurd y.2 (Int32.not_lt.mpr c_38)
                  refine ⟨_, rfl, ?_, sheet_ok hR (by omega) rfl ⟨hA, nb⟩ (if_neg (fun y => c_53 ((m1_iff c_9).mp y))).symm q_61.1 q_61.2.1 q_61.2.2⟩
                  rw [sheetX, if_pos hA, if_neg nb]
                · (try dsimp only [Gs_M] at c_53)
                  exact absurd c_53 c_34
              · (try dsimp only [Gs_M] at c_38)
                refine r_bipush (v := (-14)) dX11_sheet_41 (by decide) ?_
                refine r_iret dX11_sheet_43 rfl (Nat.le_refl _) ?_
                (try dsimp only [Gs_M])
                refine ⟨_, rfl, ?_, fr.rf, ?_⟩
                · rw [sheetX, if_pos ⟨c_4, ⟨Int32.not_lt.mp c_9, i_pred 3 (by omega) (Int32.not_le.mpr c_14)⟩, Or.inr c_27⟩, if_pos ⟨fun y => c_34 ((m1_iff c_9).mp y), Int32.not_le.mp c_38⟩]
                · rw [sheetS, sheetN, sheetI, if_neg (fun z => z.2 ⟨fun y => c_34 ((m1_iff c_9).mp y), Int32.not_le.mp c_38⟩), if_neg (fun z => z.2 ⟨fun y => c_34 ((m1_iff c_9).mp y), Int32.not_le.mp c_38⟩), if_neg (fun z => z.2 ⟨fun y => c_34 ((m1_iff c_9).mp y), Int32.not_le.mp c_38⟩)]
                  exact hR
          · (try dsimp only [Gs_M] at c_27)
            refine r_iconst (v := (-1)) dX11_sheet_30 (by decide) ?_
            refine r_iret dX11_sheet_31 rfl (Nat.le_refl _) ?_
            (try dsimp only [Gs_M])
            refine ⟨_, rfl, ?_, fr.rf, ?_⟩
            · rw [sheetX, if_neg (fun z => z.2.2.elim (fun y => c_21 ((m1_iff c_9).mp y)) c_27)]
            · rw [sheetS, sheetN, sheetI, if_neg (fun z => (fun z : shA (nI ja) s n => z.2.2.elim (fun y => c_21 ((m1_iff c_9).mp y)) c_27) z.1), if_neg (fun z => (fun z : shA (nI ja) s n => z.2.2.elim (fun y => c_21 ((m1_iff c_9).mp y)) c_27) z.1), if_neg (fun z => (fun z : shA (nI ja) s n => z.2.2.elim (fun y => c_21 ((m1_iff c_9).mp y)) c_27) z.1)]
              exact hR
      · (try dsimp only [Gs_M] at c_14)
        refine r_iconst (v := (-1)) dX11_sheet_17 (by decide) ?_
        refine r_iret dX11_sheet_18 rfl (Nat.le_refl _) ?_
        (try dsimp only [Gs_M])
        refine ⟨_, rfl, ?_, fr.rf, ?_⟩
        · rw [sheetX, if_neg (fun z => i_no 3 (by omega) (Int32.not_lt.mp c_14) z.2.1.2)]
        · rw [sheetS, sheetN, sheetI, if_neg (fun z => (fun z : shA a s n => i_no 3 (by omega) (Int32.not_lt.mp c_14) z.2.1.2) z.1), if_neg (fun z => (fun z : shA a s n => i_no 3 (by omega) (Int32.not_lt.mp c_14) z.2.1.2) z.1), if_neg (fun z => (fun z : shA a s n => i_no 3 (by omega) (Int32.not_lt.mp c_14) z.2.1.2) z.1)]
          exact hR
