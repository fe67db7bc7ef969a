abbrev shA (a so n : Int32) : Prop := (0 ≤ a ∧ a ≤ 3) ∧ (-1 ≤ so ∧ so ≤ 3) ∧ (so < 0 ∨ n ≤ 40)
abbrev shB (a so n : Int32) : Prop := shA a so n ∧ ¬ (¬ so < 0 ∧ n < 0)
def sheetX (a so n : Int32) : Int32 := if shA a so n then (if ¬ so < 0 ∧ n < 0 then -14 else 1) else -1
def sheetS (f : Nat → Int32) (a so n : Int32) : Nat → Int32 := if shB a so n then upd f (cl a) so else f
def sheetN (f : Nat → Int32) (a so n : Int32) : Nat → Int32 := if shB a so n then upd f (cl a) (if so < 0 then 0 else n) else f
def zrR (f : Nat → Int32) (b : Nat) : Nat → Nat → Int32
  | 0 => f
  | i + 1 => upd (zrR f b i) (b + i) 0
def sheetI (f : Nat → Int32) (a so n : Int32) : Nat → Int32 := if shB a so n then zrR f (40 * cl a) 40 else f
def putV (so v : Int32) : Int32 := if so = 0 then v.toInt8.toInt32 else if so = 1 then v.toInt16.toInt32 else v
abbrev putA (so sz : Nat → Int32) (a i : Int32) : Prop := (0 ≤ a ∧ a ≤ 3) ∧ ¬ so (cl a) < 0 ∧ (0 ≤ i ∧ i ≤ sz (cl a) - 1)
def putX (so sz : Nat → Int32) (a i : Int32) : Int32 := if 0 ≤ a ∧ a ≤ 3 then (if so (cl a) < 0 then -11 else if 0 ≤ i ∧ i ≤ sz (cl a) - 1 then 1 else -12) else -1
def putI (so sz f : Nat → Int32) (a i v : Int32) : Nat → Int32 := if putA so sz a i then upd f (40 * cl a + cl i) (putV (so (cl a)) v) else f
def itemX (so sz f : Nat → Int32) (a s i : Int32) : Int32 := if (0 ≤ a ∧ a ≤ 3) ∧ 0 ≤ s ∧ s ≤ 3 then (if so (cl a) < 0 then -11 else if so (cl a) = s then (if 0 ≤ i ∧ i ≤ sz (cl a) - 1 then f (40 * cl a + cl i) else -12) else -13) else -1
abbrev slA (W : Nat → Int32) (s what n : Int32) : Prop := (0 ≤ s ∧ s ≤ 3) ∧ (0 ≤ what ∧ what ≤ 2) ∧ (what = 0 → 0 ≤ n ∧ n ≤ W 6 - 1) ∧ (what = 1 → 0 ≤ n ∧ n ≤ 3)
def shelfX (W : Nat → Int32) (s what n : Int32) : Int32 := if slA W s what n then 1 else -1
def shelfH (W so f : Nat → Int32) (s what n : Int32) : Nat → Int32 := if slA W s what n then upd f (cl s) (if what = 0 then 0 else if what = 1 ∧ ¬ so (cl n) < 0 then 10 + so (cl n) else -1) else f
def shelfO (W sz f : Nat → Int32) (s what n : Int32) : Nat → Int32 := if slA W s what n then upd f (cl s) (if what = 0 then n else if what = 1 then sz (cl n) else 0) else f
def hoX (W ho h1 : Nat → Int32) (j : Nat) : Int32 := if ho j = 0 ∧ ¬ (0 ≤ h1 j ∧ h1 j ≤ W 6 - 1) then -1 else ho j
abbrev unA (kind of : Int32) : Prop := of = 0 ∨ kind = of ∨ (of = 1 ∧ kind = 3) ∨ (of = 2 ∧ kind = 4)
abbrev tkA (s a : Int32) : Prop := (0 ≤ s ∧ s ≤ 3) ∧ ((0 ≤ a ∧ a ≤ 5) ∨ (10 ≤ a ∧ a ≤ 13))
def takenX (W ho h1 : Nat → Int32) (s a : Int32) : Int32 := if tkA s a then (if hoX W ho h1 (cl s) < 0 then -11 else if hoX W ho h1 (cl s) = 0 then (if a < 10 ∧ unA (W (16 + 11 * cl (h1 (cl s)) + 0)) a then h1 (cl s) else -13) else if hoX W ho h1 (cl s) = a then h1 (cl s) else -13) else -1
set_option maxRecDepth 20000 in
set_option maxHeartbeats 1000000 in
theorem s_X12_sheet (g : pG) {S : pS} (hS : sOk S) (a so n : Int32) : MS g mX12_sheet 3 0 0 [.ref 54, .int a, .int so, .int n] (S) (eI (fun rx S1 => rx = sheetX a so n ∧ kp [65, 66, 67] (S) S1 ∧ S1.2.2.2 65 = sheetS ((S).2.2.2 65) a so n ∧ S1.2.2.2 66 = sheetN ((S).2.2.2 66) a so n ∧ S1.2.2.2 67 = sheetI ((S).2.2.2 67) a so n)) := by
  obtain ⟨M0, rfl⟩ := sOk_gs hS
  refine MS.of pn_X12 (Nat.le_of_ble_eq_true rfl) ?_
  refine r_iload_n dX12_sheet_0 rfl rfl ?_
  refine r_callS_dI dX12_sheet_1 (s_X12_isSheet g _ _) mf_X12_isSheet mt_X12_isSheet ml_X12_230 rfl rfl (Nat.le_of_ble_eq_true rfl) ⟨(Nat.le_of_ble_eq_true rfl), (Nat.le_of_ble_eq_true rfl)⟩ ⟨(Nat.le_of_ble_eq_true rfl), (Nat.le_of_ble_eq_true rfl)⟩ ?_
  refine r_if_eq (tgt := 26) dX12_sheet_4 (by decide) (fun c_4 => ?_) (fun c_4 => ?_)
  · have c_4 := bI_0 c_4
    (try dsimp only [Gs_M] at c_4)
    refine r_iconst (v := (-1)) dX12_sheet_26 (by decide) ?_
    refine r_iret dX12_sheet_27 rfl (Nat.le_refl _) ?_
    (try dsimp only [Gs_M])
    have na : ¬ shA a so n := fun z => c_4 z.1
    have nb : ¬ shB a so n := fun z => na z.1
    refine ⟨_, rfl, ?_, kp.rf hS, ?_, ?_, ?_⟩
    · rw [sheetX, if_neg na]
    · rw [sheetS, if_neg nb]
      rfl
    · rw [sheetN, if_neg nb]
      rfl
    · rw [sheetI, if_neg nb]
      rfl
  · have c_4 := bI_n c_4
    (try dsimp only [Gs_M] at c_4)
    refine r_iload_n dX12_sheet_7 rfl rfl ?_
    refine r_iconst (v := (-1)) dX12_sheet_8 (by decide) ?_
    refine r_iconst (v := 3) dX12_sheet_9 (by decide) ?_
    refine r_callS_dI dX12_sheet_10 (s_X12_in1 g _ _ _ _) mf_X12_in1 mt_X12_in1 ml_X12_63 rfl rfl (Nat.le_of_ble_eq_true rfl) ⟨(Nat.le_of_ble_eq_true rfl), (Nat.le_of_ble_eq_true rfl)⟩ ⟨(Nat.le_of_ble_eq_true rfl), (Nat.le_of_ble_eq_true rfl)⟩ ?_
    refine r_if_eq (tgt := 26) dX12_sheet_13 (by decide) (fun c_13 => ?_) (fun c_13 => ?_)
    · have c_13 := bI_0 c_13
      (try dsimp only [Gs_M] at c_13)
      refine r_iconst (v := (-1)) dX12_sheet_26 (by decide) ?_
      refine r_iret dX12_sheet_27 rfl (Nat.le_refl _) ?_
      (try dsimp only [Gs_M])
      have na : ¬ shA a so n := fun z => c_13 z.2.1
      have nb : ¬ shB a so n := fun z => na z.1
      refine ⟨_, rfl, ?_, kp.rf hS, ?_, ?_, ?_⟩
      · rw [sheetX, if_neg na]
      · rw [sheetS, if_neg nb]
        rfl
      · rw [sheetN, if_neg nb]
        rfl
      · rw [sheetI, if_neg nb]
        rfl
    · have c_13 := bI_n c_13
      (try dsimp only [Gs_M] at c_13)
      refine r_iload_n dX12_sheet_16 rfl rfl ?_
      refine r_if_lt (tgt := 28) dX12_sheet_17 (by decide) (fun c_17 => ?_) (fun c_17 => ?_)
      · (try dsimp only [Gs_M] at c_17)
        refine r_iload_n dX12_sheet_28 rfl rfl ?_
        refine r_if_lt (tgt := 39) dX12_sheet_29 (by decide) (fun c_29 => ?_) (fun c_29 => ?_)
        · (try dsimp only [Gs_M] at c_29)
          obtain ⟨ja, hja, rfl⟩ := rng (x := a) 3 (by decide) c_4
          refine r_aload_n dX12_sheet_39 rfl rfl ?_
          refine r_getR (q := 65) dX12_sheet_40 (ci := 12) (kf := 18) rfl (Nat.le_of_ble_eq_true rfl) (by decide) (by decide) rfl fl_X12_41 (Or.inl rfl) rfl ?_
          refine r_iload_n dX12_sheet_43 rfl rfl ?_
          refine r_iload_n dX12_sheet_44 rfl rfl ?_
          refine r_iast (j := ja) dX12_sheet_45 rfl (Nat.le_of_ble_eq_true rfl) rfl (by omega) (by decide) ?_
          refine r_aload_n dX12_sheet_46 rfl rfl ?_
          refine r_getR (q := 66) dX12_sheet_47 (ci := 12) (kf := 19) rfl (Nat.le_of_ble_eq_true rfl) (by decide) (by decide) rfl fl_X12_44 (Or.inl rfl) rfl ?_
          refine r_iload_n dX12_sheet_50 rfl rfl ?_
          refine r_iload_n dX12_sheet_51 rfl rfl ?_
          refine r_if_ge (tgt := 59) dX12_sheet_52 (by decide) (fun c_52 => ?_) (fun c_52 => ?_)
          · (try dsimp only [Gs_M] at c_52)
            refine r_iload_n dX12_sheet_59 rfl rfl ?_
            refine r_iast (j := ja) dX12_sheet_60 rfl (Nat.le_of_ble_eq_true rfl) rfl (by omega) (by decide) ?_
            refine r_iconst (v := 0) dX12_sheet_61 (by decide) ?_
            refine r_istore dX12_sheet_62 (by decide) ?_
            exact absurd c_29 (Int32.not_lt.mpr c_52)
          · (try dsimp only [Gs_M] at c_52)
            refine r_iconst (v := 0) dX12_sheet_55 (by decide) ?_
            refine r_goto (tgt := 60) dX12_sheet_56 (by decide) ?_
            refine r_iast (j := ja) dX12_sheet_60 rfl (Nat.le_of_ble_eq_true rfl) rfl (by omega) (by decide) ?_
            refine r_iconst (v := 0) dX12_sheet_61 (by decide) ?_
            refine r_istore dX12_sheet_62 (by decide) ?_
            have hA : shA (nI ja) so n := ⟨c_4, c_13, Or.inl c_17⟩
            have hB : shB (nI ja) so n := ⟨hA, fun z => z.1 c_17⟩
            have lp : ∀ (j_ : Nat) (i : Nat) (S1 : pS) (hk : kp [65, 66, 67] (Gs M0) S1) (h65 : S1.2.2.2 65 = upd (M0 65) ja so) (h66 : S1.2.2.2 66 = upd (M0 66) ja 0) (h67 : S1.2.2.2 67 = zrR (M0 67) (40 * ja) i) (hin : i ≤ 40), 40 - i < j_ → PW g mX12_sheet (eN g (Gs M0).1 3 0 0 (eI (fun rx S1 => rx = sheetX (nI ja) so n ∧ kp [65, 66, 67] (Gs M0) S1 ∧ S1.2.2.2 65 = sheetS ((Gs M0).2.2.2 65) (nI ja) so n ∧ S1.2.2.2 66 = sheetN ((Gs M0).2.2.2 66) (nI ja) so n ∧ S1.2.2.2 67 = sheetI ((Gs M0).2.2.2 67) (nI ja) so n))) 64 [some (.ref 54), some (.int (nI ja)), some (.int so), some (.int n), some (.int (nI i))] [] (S1) 0 0 := by
              intro j_
              induction j_ with
              | zero => intro i S1 hk h65 h66 h67 hin hj; exact absurd hj (Nat.not_lt_zero _)
              | succ j_ ih =>
                intro i S1 hk h65 h66 h67 hin hj
                obtain ⟨M, rfl⟩ := sOk_gs hk.1
                refine r_iload dX12_sheet_64 rfl ?_
                refine r_bipush (v := 40) dX12_sheet_66 (by decide) ?_
                refine r_icmp_geN (i) (40) (tgt := 90) dX12_sheet_68 (by decide) (by omega) (by omega) (fun c_68 => ?_) (fun c_68 => ?_)
                · (try dsimp only [Gs_M] at c_68)
                  refine r_iconst (v := 1) dX12_sheet_90 (by decide) ?_
                  refine r_iret dX12_sheet_91 rfl (Nat.le_refl _) ?_
                  (try dsimp only [Gs_M])
                  have ei : i = 40 := by omega
                  subst ei
                  refine ⟨_, rfl, ?_, hk, ?_, ?_, ?_⟩
                  · rw [sheetX, if_pos hA, if_neg hB.2]
                  · rw [sheetS, if_pos hB, cl_nI (by omega)]; exact h65
                  · rw [sheetN, if_pos hB, cl_nI (by omega), if_pos c_17]; exact h66
                  · rw [sheetI, if_pos hB, cl_nI (by omega)]; exact h67
                · (try dsimp only [Gs_M] at c_68)
                  refine r_aload_n dX12_sheet_71 rfl rfl ?_
                  refine r_getR (q := 67) dX12_sheet_72 (ci := 12) (kf := 20) rfl (Nat.le_of_ble_eq_true rfl) (by decide) (by decide) rfl fl_X12_47 (Or.inl rfl) rfl ?_
                  refine r_bipush (v := 40) dX12_sheet_75 (by decide) ?_
                  refine r_iload_n dX12_sheet_77 rfl rfl ?_
                  refine r_imulN (40) (ja) dX12_sheet_78 ?_
                  refine r_iload dX12_sheet_79 rfl ?_
                  refine r_iaddN ((40 * ja)) (i) dX12_sheet_81 ?_
                  refine r_iconst (v := 0) dX12_sheet_82 (by decide) ?_
                  refine r_iast (j := ((40 * ja) + i)) dX12_sheet_83 rfl (Nat.le_of_ble_eq_true rfl) rfl (by omega) (by decide) ?_
                  refine r_iinc (v := nI (i + 1)) dX12_sheet_84 rfl (nI_1 _) (by decide) ?_
                  refine r_goto (tgt := 64) dX12_sheet_87 (by decide) ?_
                  exact PW.subL (ih (i + 1) _ (hk.set (by decide) (by decide)) ((mSet_ne (by decide)).trans h65) ((mSet_ne (by decide)).trans h66) (by rw [mSet_at, h67]; rfl) (by omega) (by omega)) (by repeat' first | exact True.intro | refine And.intro rfl ?_)
            exact PW.subL (lp 41 0 _ (((kp.rf hS).set (by decide) (by decide)).set (by decide) (by decide)) ((mSet_ne (by decide)).trans mSet_at) (mSet_at.trans (by rw [mSet_ne (by decide)]; rfl)) ((mSet_ne (by decide)).trans (mSet_ne (by decide))) (by omega) (by omega)) (by repeat' first | exact True.intro | refine And.intro rfl ?_)
        · (try dsimp only [Gs_M] at c_29)
          refine r_iload_n dX12_sheet_32 rfl rfl ?_
          refine r_if_ge (tgt := 39) dX12_sheet_33 (by decide) (fun c_33 => ?_) (fun c_33 => ?_)
          · (try dsimp only [Gs_M] at c_33)
            obtain ⟨ja, hja, rfl⟩ := rng (x := a) 3 (by decide) c_4
            refine r_aload_n dX12_sheet_39 rfl rfl ?_
            refine r_getR (q := 65) dX12_sheet_40 (ci := 12) (kf := 18) rfl (Nat.le_of_ble_eq_true rfl) (by decide) (by decide) rfl fl_X12_41 (Or.inl rfl) rfl ?_
            refine r_iload_n dX12_sheet_43 rfl rfl ?_
            refine r_iload_n dX12_sheet_44 rfl rfl ?_
            refine r_iast (j := ja) dX12_sheet_45 rfl (Nat.le_of_ble_eq_true rfl) rfl (by omega) (by decide) ?_
            refine r_aload_n dX12_sheet_46 rfl rfl ?_
            refine r_getR (q := 66) dX12_sheet_47 (ci := 12) (kf := 19) rfl (Nat.le_of_ble_eq_true rfl) (by decide) (by decide) rfl fl_X12_44 (Or.inl rfl) rfl ?_
            refine r_iload_n dX12_sheet_50 rfl rfl ?_
            refine r_iload_n dX12_sheet_51 rfl rfl ?_
            refine r_if_ge (tgt := 59) dX12_sheet_52 (by decide) (fun c_52 => ?_) (fun c_52 => ?_)
            · (try dsimp only [Gs_M] at c_52)
              refine r_iload_n dX12_sheet_59 rfl rfl ?_
              refine r_iast (j := ja) dX12_sheet_60 rfl (Nat.le_of_ble_eq_true rfl) rfl (by omega) (by decide) ?_
              refine r_iconst (v := 0) dX12_sheet_61 (by decide) ?_
              refine r_istore dX12_sheet_62 (by decide) ?_
              exact absurd c_17 c_29
            · (try dsimp only [Gs_M] at c_52)
              refine r_iconst (v := 0) dX12_sheet_55 (by decide) ?_
              refine r_goto (tgt := 60) dX12_sheet_56 (by decide) ?_
              refine r_iast (j := ja) dX12_sheet_60 rfl (Nat.le_of_ble_eq_true rfl) rfl (by omega) (by decide) ?_
              refine r_iconst (v := 0) dX12_sheet_61 (by decide) ?_
              refine r_istore dX12_sheet_62 (by decide) ?_
              exact absurd c_17 c_29
          · (try dsimp only [Gs_M] at c_33)
            refine r_bipush (v := (-14)) dX12_sheet_36 (by decide) ?_
            refine r_iret dX12_sheet_38 rfl (Nat.le_refl _) ?_
            (try dsimp only [Gs_M])
            exact absurd c_17 c_29
      · (try dsimp only [Gs_M] at c_17)
        refine r_iload_n dX12_sheet_20 rfl rfl ?_
        refine r_bipush (v := 40) dX12_sheet_21 (by decide) ?_
        refine r_icmp_le (tgt := 28) dX12_sheet_23 (by decide) (fun c_23 => ?_) (fun c_23 => ?_)
        · (try dsimp only [Gs_M] at c_23)
          refine r_iload_n dX12_sheet_28 rfl rfl ?_
          refine r_if_lt (tgt := 39) dX12_sheet_29 (by decide) (fun c_29 => ?_) (fun c_29 => ?_)
          · (try dsimp only [Gs_M] at c_29)
            obtain ⟨ja, hja, rfl⟩ := rng (x := a) 3 (by decide) c_4
            refine r_aload_n dX12_sheet_39 rfl rfl ?_
            refine r_getR (q := 65) dX12_sheet_40 (ci := 12) (kf := 18) rfl (Nat.le_of_ble_eq_true rfl) (by decide) (by decide) rfl fl_X12_41 (Or.inl rfl) rfl ?_
            refine r_iload_n dX12_sheet_43 rfl rfl ?_
            refine r_iload_n dX12_sheet_44 rfl rfl ?_
            refine r_iast (j := ja) dX12_sheet_45 rfl (Nat.le_of_ble_eq_true rfl) rfl (by omega) (by decide) ?_
            refine r_aload_n dX12_sheet_46 rfl rfl ?_
            refine r_getR (q := 66) dX12_sheet_47 (ci := 12) (kf := 19) rfl (Nat.le_of_ble_eq_true rfl) (by decide) (by decide) rfl fl_X12_44 (Or.inl rfl) rfl ?_
            refine r_iload_n dX12_sheet_50 rfl rfl ?_
            refine r_iload_n dX12_sheet_51 rfl rfl ?_
            refine r_if_ge (tgt := 59) dX12_sheet_52 (by decide) (fun c_52 => ?_) (fun c_52 => ?_)
            · (try dsimp only [Gs_M] at c_52)
              refine r_iload_n dX12_sheet_59 rfl rfl ?_
              refine r_iast (j := ja) dX12_sheet_60 rfl (Nat.le_of_ble_eq_true rfl) rfl (by omega) (by decide) ?_
              refine r_iconst (v := 0) dX12_sheet_61 (by decide) ?_
              refine r_istore dX12_sheet_62 (by decide) ?_
              exact absurd c_29 c_17
            · (try dsimp only [Gs_M] at c_52)
              refine r_iconst (v := 0) dX12_sheet_55 (by decide) ?_
              refine r_goto (tgt := 60) dX12_sheet_56 (by decide) ?_
              refine r_iast (j := ja) dX12_sheet_60 rfl (Nat.le_of_ble_eq_true rfl) rfl (by omega) (by decide) ?_
              refine r_iconst (v := 0) dX12_sheet_61 (by decide) ?_
              refine r_istore dX12_sheet_62 (by decide) ?_
              exact absurd c_29 c_17
          · (try dsimp only [Gs_M] at c_29)
            refine r_iload_n dX12_sheet_32 rfl rfl ?_
            refine r_if_ge (tgt := 39) dX12_sheet_33 (by decide) (fun c_33 => ?_) (fun c_33 => ?_)
            · (try dsimp only [Gs_M] at c_33)
              obtain ⟨ja, hja, rfl⟩ := rng (x := a) 3 (by decide) c_4
              refine r_aload_n dX12_sheet_39 rfl rfl ?_
              refine r_getR (q := 65) dX12_sheet_40 (ci := 12) (kf := 18) rfl (Nat.le_of_ble_eq_true rfl) (by decide) (by decide) rfl fl_X12_41 (Or.inl rfl) rfl ?_
              refine r_iload_n dX12_sheet_43 rfl rfl ?_
              refine r_iload_n dX12_sheet_44 rfl rfl ?_
              refine r_iast (j := ja) dX12_sheet_45 rfl (Nat.le_of_ble_eq_true rfl) rfl (by omega) (by decide) ?_
              refine r_aload_n dX12_sheet_46 rfl rfl ?_
              refine r_getR (q := 66) dX12_sheet_47 (ci := 12) (kf := 19) rfl (Nat.le_of_ble_eq_true rfl) (by decide) (by decide) rfl fl_X12_44 (Or.inl rfl) rfl ?_
              refine r_iload_n dX12_sheet_50 rfl rfl ?_
              refine r_iload_n dX12_sheet_51 rfl rfl ?_
              refine r_if_ge (tgt := 59) dX12_sheet_52 (by decide) (fun c_52 => ?_) (fun c_52 => ?_)
              · (try dsimp only [Gs_M] at c_52)
                refine r_iload_n dX12_sheet_59 rfl rfl ?_
                refine r_iast (j := ja) dX12_sheet_60 rfl (Nat.le_of_ble_eq_true rfl) rfl (by omega) (by decide) ?_
                refine r_iconst (v := 0) dX12_sheet_61 (by decide) ?_
                refine r_istore dX12_sheet_62 (by decide) ?_
                have hA : shA (nI ja) so n := ⟨c_4, c_13, Or.inr c_23⟩
                have hB : shB (nI ja) so n := ⟨hA, fun z => Int32.not_lt.mpr c_33 z.2⟩
                have lp : ∀ (j_ : Nat) (i : Nat) (S1 : pS) (hk : kp [65, 66, 67] (Gs M0) S1) (h65 : S1.2.2.2 65 = upd (M0 65) ja so) (h66 : S1.2.2.2 66 = upd (M0 66) ja n) (h67 : S1.2.2.2 67 = zrR (M0 67) (40 * ja) i) (hin : i ≤ 40), 40 - i < j_ → PW g mX12_sheet (eN g (Gs M0).1 3 0 0 (eI (fun rx S1 => rx = sheetX (nI ja) so n ∧ kp [65, 66, 67] (Gs M0) S1 ∧ S1.2.2.2 65 = sheetS ((Gs M0).2.2.2 65) (nI ja) so n ∧ S1.2.2.2 66 = sheetN ((Gs M0).2.2.2 66) (nI ja) so n ∧ S1.2.2.2 67 = sheetI ((Gs M0).2.2.2 67) (nI ja) so n))) 64 [some (.ref 54), some (.int (nI ja)), some (.int so), some (.int n), some (.int (nI i))] [] (S1) 0 0 := by
                  intro j_
                  induction j_ with
                  | zero => intro i S1 hk h65 h66 h67 hin hj; exact absurd hj (Nat.not_lt_zero _)
                  | succ j_ ih =>
                    intro i S1 hk h65 h66 h67 hin hj
                    obtain ⟨M, rfl⟩ := sOk_gs hk.1
                    refine r_iload dX12_sheet_64 rfl ?_
                    refine r_bipush (v := 40) dX12_sheet_66 (by decide) ?_
                    refine r_icmp_geN (i) (40) (tgt := 90) dX12_sheet_68 (by decide) (by omega) (by omega) (fun c_68 => ?_) (fun c_68 => ?_)
                    · (try dsimp only [Gs_M] at c_68)
                      refine r_iconst (v := 1) dX12_sheet_90 (by decide) ?_
                      refine r_iret dX12_sheet_91 rfl (Nat.le_refl _) ?_
                      (try dsimp only [Gs_M])
                      have ei : i = 40 := by omega
                      subst ei
                      refine ⟨_, rfl, ?_, hk, ?_, ?_, ?_⟩
                      · rw [sheetX, if_pos hA, if_neg hB.2]
                      · rw [sheetS, if_pos hB, cl_nI (by omega)]; exact h65
                      · rw [sheetN, if_pos hB, cl_nI (by omega), if_neg c_17]; exact h66
                      · rw [sheetI, if_pos hB, cl_nI (by omega)]; exact h67
                    · (try dsimp only [Gs_M] at c_68)
                      refine r_aload_n dX12_sheet_71 rfl rfl ?_
                      refine r_getR (q := 67) dX12_sheet_72 (ci := 12) (kf := 20) rfl (Nat.le_of_ble_eq_true rfl) (by decide) (by decide) rfl fl_X12_47 (Or.inl rfl) rfl ?_
                      refine r_bipush (v := 40) dX12_sheet_75 (by decide) ?_
                      refine r_iload_n dX12_sheet_77 rfl rfl ?_
                      refine r_imulN (40) (ja) dX12_sheet_78 ?_
                      refine r_iload dX12_sheet_79 rfl ?_
                      refine r_iaddN ((40 * ja)) (i) dX12_sheet_81 ?_
                      refine r_iconst (v := 0) dX12_sheet_82 (by decide) ?_
                      refine r_iast (j := ((40 * ja) + i)) dX12_sheet_83 rfl (Nat.le_of_ble_eq_true rfl) rfl (by omega) (by decide) ?_
                      refine r_iinc (v := nI (i + 1)) dX12_sheet_84 rfl (nI_1 _) (by decide) ?_
                      refine r_goto (tgt := 64) dX12_sheet_87 (by decide) ?_
                      exact PW.subL (ih (i + 1) _ (hk.set (by decide) (by decide)) ((mSet_ne (by decide)).trans h65) ((mSet_ne (by decide)).trans h66) (by rw [mSet_at, h67]; rfl) (by omega) (by omega)) (by repeat' first | exact True.intro | refine And.intro rfl ?_)
                exact PW.subL (lp 41 0 _ (((kp.rf hS).set (by decide) (by decide)).set (by decide) (by decide)) ((mSet_ne (by decide)).trans mSet_at) (mSet_at.trans (by rw [mSet_ne (by decide)]; rfl)) ((mSet_ne (by decide)).trans (mSet_ne (by decide))) (by omega) (by omega)) (by repeat' first | exact True.intro | refine And.intro rfl ?_)
              · (try dsimp only [Gs_M] at c_52)
                refine r_iconst (v := 0) dX12_sheet_55 (by decide) ?_
                refine r_goto (tgt := 60) dX12_sheet_56 (by decide) ?_
                refine r_iast (j := ja) dX12_sheet_60 rfl (Nat.le_of_ble_eq_true rfl) rfl (by omega) (by decide) ?_
                refine r_iconst (v := 0) dX12_sheet_61 (by decide) ?_
                refine r_istore dX12_sheet_62 (by decide) ?_
                exact absurd (Int32.not_le.mp c_52) c_29
            · (try dsimp only [Gs_M] at c_33)
              refine r_bipush (v := (-14)) dX12_sheet_36 (by decide) ?_
              refine r_iret dX12_sheet_38 rfl (Nat.le_refl _) ?_
              (try dsimp only [Gs_M])
              have hA : shA a so n := ⟨c_4, c_13, Or.inr c_23⟩
              have nb : ¬ shB a so n := fun z => z.2 ⟨c_29, Int32.not_le.mp c_33⟩
              refine ⟨_, rfl, ?_, kp.rf hS, ?_, ?_, ?_⟩
              · rw [sheetX, if_pos hA, if_pos ⟨c_29, Int32.not_le.mp c_33⟩]
              · rw [sheetS, if_neg nb]
                rfl
              · rw [sheetN, if_neg nb]
                rfl
              · rw [sheetI, if_neg nb]
                rfl
        · (try dsimp only [Gs_M] at c_23)
          refine r_iconst (v := (-1)) dX12_sheet_26 (by decide) ?_
          refine r_iret dX12_sheet_27 rfl (Nat.le_refl _) ?_
          (try dsimp only [Gs_M])
          have NL17 : ¬ so < 0 := Int32.not_lt.mpr (Int32.not_lt.mp c_17)
          have NL23 : ¬ n ≤ 40 := c_23
          have na : ¬ shA a so n := fun z => z.2.2.elim (fun y => absurd y NL17) (fun y => absurd y NL23)
          have nb : ¬ shB a so n := fun z => na z.1
          refine ⟨_, rfl, ?_, kp.rf hS, ?_, ?_, ?_⟩
          · rw [sheetX, if_neg na]
          · rw [sheetS, if_neg nb]
            rfl
          · rw [sheetN, if_neg nb]
            rfl
          · rw [sheetI, if_neg nb]
            rfl
set_option maxRecDepth 20000 in
set_option maxHeartbeats 1000000 in
theorem s_X12_put (g : pG) {S : pS} (hS : sOk S) (hZ : ShI S) (a i v : Int32) : MS g mX12_put 3 0 0 [.ref 54, .int a, .int i, .int v] (S) (eI (fun rx S1 => rx = putX ((S).2.2.2 65) ((S).2.2.2 66) a i ∧ kp [67] (S) S1 ∧ S1.2.2.2 67 = putI ((S).2.2.2 65) ((S).2.2.2 66) ((S).2.2.2 67) a i v)) := by
  obtain ⟨M0, rfl⟩ := sOk_gs hS
  refine MS.of pn_X12 (Nat.le_of_ble_eq_true rfl) ?_
  refine r_iload_n dX12_put_0 rfl rfl ?_
  refine r_callS_dI dX12_put_1 (s_X12_isSheet g _ _) mf_X12_isSheet mt_X12_isSheet ml_X12_230 rfl rfl (Nat.le_of_ble_eq_true rfl) ⟨(Nat.le_of_ble_eq_true rfl), (Nat.le_of_ble_eq_true rfl)⟩ ⟨(Nat.le_of_ble_eq_true rfl), (Nat.le_of_ble_eq_true rfl)⟩ ?_
  refine r_if_ne (tgt := 9) dX12_put_4 (by decide) (fun c_4 => ?_) (fun c_4 => ?_)
  · have c_4 := bI_n c_4
    (try dsimp only [Gs_M] at c_4)
    obtain ⟨ja, hja, rfl⟩ := rng (x := a) 3 (by decide) c_4
    obtain ⟨n, hn, esz⟩ := hZ ja (by omega)
    have esz : M0 66 ja = nI n := esz
    refine r_aload_n dX12_put_9 rfl rfl ?_
    refine r_getR (q := 65) dX12_put_10 (ci := 12) (kf := 18) rfl (Nat.le_of_ble_eq_true rfl) (by decide) (by decide) rfl fl_X12_41 (Or.inl rfl) rfl ?_
    refine r_iload_n dX12_put_13 rfl rfl ?_
    refine r_iald (j := ja) dX12_put_14 rfl (Nat.le_of_ble_eq_true rfl) rfl (by omega) (by decide) ?_
    refine r_if_ge (tgt := 21) dX12_put_15 (by decide) (fun c_15 => ?_) (fun c_15 => ?_)
    · (try dsimp only [Gs_M] at c_15)
      refine r_iload_n dX12_put_21 rfl rfl ?_
      refine r_iconst (v := 0) dX12_put_22 (by decide) ?_
      refine r_aload_n dX12_put_23 rfl rfl ?_
      refine r_getR (q := 66) dX12_put_24 (ci := 12) (kf := 19) rfl (Nat.le_of_ble_eq_true rfl) (by decide) (by decide) rfl fl_X12_44 (Or.inl rfl) rfl ?_
      refine r_iload_n dX12_put_27 rfl rfl ?_
      refine r_iald (j := ja) dX12_put_28 rfl (Nat.le_of_ble_eq_true rfl) rfl (by omega) (by decide) ?_
      refine r_iconst (v := 1) dX12_put_29 (by decide) ?_
      refine r_isub dX12_put_30 ?_
      refine r_callS_dI dX12_put_31 (s_X12_in1 g _ _ _ _) mf_X12_in1 mt_X12_in1 ml_X12_63 rfl rfl (Nat.le_of_ble_eq_true rfl) ⟨(Nat.le_of_ble_eq_true rfl), (Nat.le_of_ble_eq_true rfl)⟩ ⟨(Nat.le_of_ble_eq_true rfl), (Nat.le_of_ble_eq_true rfl)⟩ ?_
      refine r_if_ne (tgt := 40) dX12_put_34 (by decide) (fun c_34 => ?_) (fun c_34 => ?_)
      · have c_34 := bI_n c_34
        (try dsimp only [Gs_M] at c_34)
        obtain ⟨ji, hji, rfl⟩ := rng40 c_34 hn esz
        refine r_aload_n dX12_put_40 rfl rfl ?_
        refine r_getR (q := 67) dX12_put_41 (ci := 12) (kf := 20) rfl (Nat.le_of_ble_eq_true rfl) (by decide) (by decide) rfl fl_X12_47 (Or.inl rfl) rfl ?_
        refine r_bipush (v := 40) dX12_put_44 (by decide) ?_
        refine r_iload_n dX12_put_46 rfl rfl ?_
        refine r_imulN (40) (ja) dX12_put_47 ?_
        refine r_iload_n dX12_put_48 rfl rfl ?_
        refine r_iaddN ((40 * ja)) (ji) dX12_put_49 ?_
        refine r_aload_n dX12_put_50 rfl rfl ?_
        refine r_getR (q := 65) dX12_put_51 (ci := 12) (kf := 18) rfl (Nat.le_of_ble_eq_true rfl) (by decide) (by decide) rfl fl_X12_41 (Or.inl rfl) rfl ?_
        refine r_iload_n dX12_put_54 rfl rfl ?_
        refine r_iald (j := ja) dX12_put_55 rfl (Nat.le_of_ble_eq_true rfl) rfl (by omega) (by decide) ?_
        refine r_if_ne (tgt := 64) dX12_put_56 (by decide) (fun c_56 => ?_) (fun c_56 => ?_)
        · (try dsimp only [Gs_M] at c_56)
          refine r_aload_n dX12_put_64 rfl rfl ?_
          refine r_getR (q := 65) dX12_put_65 (ci := 12) (kf := 18) rfl (Nat.le_of_ble_eq_true rfl) (by decide) (by decide) rfl fl_X12_41 (Or.inl rfl) rfl ?_
          refine r_iload_n dX12_put_68 rfl rfl ?_
          refine r_iald (j := ja) dX12_put_69 rfl (Nat.le_of_ble_eq_true rfl) rfl (by omega) (by decide) ?_
          refine r_iconst (v := 1) dX12_put_70 (by decide) ?_
          refine r_icmp_ne (tgt := 79) dX12_put_71 (by decide) (fun c_71 => ?_) (fun c_71 => ?_)
          · (try dsimp only [Gs_M] at c_71)
            refine r_iload_n dX12_put_79 rfl rfl ?_
            refine r_iast (j := ((40 * ja) + ji)) dX12_put_80 rfl (Nat.le_of_ble_eq_true rfl) rfl (by omega) (by decide) ?_
            refine r_iconst (v := 1) dX12_put_81 (by decide) ?_
            refine r_iret dX12_put_82 rfl (Nat.le_refl _) ?_
            (try dsimp only [Gs_M])
            refine ⟨_, rfl, ?_, (kp.rf hS).set (by decide) (by decide), ?_⟩
            · rw [putX, if_pos c_4, cl_nI (by omega), if_neg (Int32.not_lt.mpr c_15), if_pos c_34]
            · rw [putI, if_pos ⟨c_4, by rw [cl_nI (by omega)]; exact ⟨Int32.not_lt.mpr c_15, c_34⟩⟩, cl_nI (by omega), cl_nI (by omega), mSet_at]
              rw [putV, if_neg c_56, if_neg c_71]
              rfl
          · (try dsimp only [Gs_M] at c_71)
            refine r_iload_n dX12_put_74 rfl rfl ?_
            refine r_i2s dX12_put_75 rfl ?_
            refine r_goto (tgt := 80) dX12_put_76 (by decide) ?_
            refine r_iast (j := ((40 * ja) + ji)) dX12_put_80 rfl (Nat.le_of_ble_eq_true rfl) rfl (by omega) (by decide) ?_
            refine r_iconst (v := 1) dX12_put_81 (by decide) ?_
            refine r_iret dX12_put_82 rfl (Nat.le_refl _) ?_
            (try dsimp only [Gs_M])
            refine ⟨_, rfl, ?_, (kp.rf hS).set (by decide) (by decide), ?_⟩
            · rw [putX, if_pos c_4, cl_nI (by omega), if_neg (Int32.not_lt.mpr c_15), if_pos c_34]
            · rw [putI, if_pos ⟨c_4, by rw [cl_nI (by omega)]; exact ⟨Int32.not_lt.mpr c_15, c_34⟩⟩, cl_nI (by omega), cl_nI (by omega), mSet_at]
              rw [putV, if_neg c_56, if_pos c_71]
              rfl
        · (try dsimp only [Gs_M] at c_56)
          refine r_iload_n dX12_put_59 rfl rfl ?_
          refine r_i2b dX12_put_60 rfl ?_
          refine r_goto (tgt := 80) dX12_put_61 (by decide) ?_
          refine r_iast (j := ((40 * ja) + ji)) dX12_put_80 rfl (Nat.le_of_ble_eq_true rfl) rfl (by omega) (by decide) ?_
          refine r_iconst (v := 1) dX12_put_81 (by decide) ?_
          refine r_iret dX12_put_82 rfl (Nat.le_refl _) ?_
          (try dsimp only [Gs_M])
          refine ⟨_, rfl, ?_, (kp.rf hS).set (by decide) (by decide), ?_⟩
          · rw [putX, if_pos c_4, cl_nI (by omega), if_neg (Int32.not_lt.mpr c_15), if_pos c_34]
          · rw [putI, if_pos ⟨c_4, by rw [cl_nI (by omega)]; exact ⟨Int32.not_lt.mpr c_15, c_34⟩⟩, cl_nI (by omega), cl_nI (by omega), mSet_at]
            rw [putV, if_pos c_56]
            rfl
      · have c_34 := bI_0 c_34
        (try dsimp only [Gs_M] at c_34)
        refine r_bipush (v := (-12)) dX12_put_37 (by decide) ?_
        refine r_iret dX12_put_39 rfl (Nat.le_refl _) ?_
        (try dsimp only [Gs_M])
        refine ⟨_, rfl, ?_, kp.rf hS, ?_⟩
        · rw [putX, if_pos c_4, cl_nI (by omega), if_neg (Int32.not_lt.mpr c_15), if_neg c_34]
        · rw [putI, if_neg (fun z => c_34 (by have y := z.2.2; rw [cl_nI (by omega)] at y; exact y))]
          rfl
    · (try dsimp only [Gs_M] at c_15)
      refine r_bipush (v := (-11)) dX12_put_18 (by decide) ?_
      refine r_iret dX12_put_20 rfl (Nat.le_refl _) ?_
      (try dsimp only [Gs_M])
      refine ⟨_, rfl, ?_, kp.rf hS, ?_⟩
      · rw [putX, if_pos c_4, cl_nI (by omega), if_pos (Int32.not_le.mp c_15)]
      · rw [putI, if_neg (fun z => z.2.1 (by rw [cl_nI (by omega)]; exact Int32.not_le.mp c_15))]
        rfl
  · have c_4 := bI_0 c_4
    (try dsimp only [Gs_M] at c_4)
    refine r_iconst (v := (-1)) dX12_put_7 (by decide) ?_
    refine r_iret dX12_put_8 rfl (Nat.le_refl _) ?_
    (try dsimp only [Gs_M])
    refine ⟨_, rfl, ?_, kp.rf hS, ?_⟩
    · rw [putX, if_neg c_4]
    · rw [putI, if_neg (fun z => c_4 z.1)]
      rfl
set_option maxRecDepth 20000 in
set_option maxHeartbeats 1000000 in
theorem s_X12_item (g : pG) {S : pS} (hS : sOk S) (hZ : ShI S) (a s i : Int32) : MS g mX12_item 3 0 0 [.ref 54, .int a, .int s, .int i] (S) (eI (fun rx S1 => rx = itemX ((S).2.2.2 65) ((S).2.2.2 66) ((S).2.2.2 67) a s i ∧ kp [] (S) S1)) := by
  obtain ⟨M0, rfl⟩ := sOk_gs hS
  refine MS.of pn_X12 (Nat.le_of_ble_eq_true rfl) ?_
  refine r_iload_n dX12_item_0 rfl rfl ?_
  refine r_callS_dI dX12_item_1 (s_X12_isSheet g _ _) mf_X12_isSheet mt_X12_isSheet ml_X12_230 rfl rfl (Nat.le_of_ble_eq_true rfl) ⟨(Nat.le_of_ble_eq_true rfl), (Nat.le_of_ble_eq_true rfl)⟩ ⟨(Nat.le_of_ble_eq_true rfl), (Nat.le_of_ble_eq_true rfl)⟩ ?_
  refine r_if_eq (tgt := 16) dX12_item_4 (by decide) (fun c_4 => ?_) (fun c_4 => ?_)
  · have c_4 := bI_0 c_4
    (try dsimp only [Gs_M] at c_4)
    refine r_iconst (v := (-1)) dX12_item_16 (by decide) ?_
    refine r_iret dX12_item_17 rfl (Nat.le_refl _) ?_
    (try dsimp only [Gs_M])
    refine ⟨_, rfl, ?_, kp.rf hS⟩
    rw [itemX, if_neg (fun z => c_4 z.1)]
  · have c_4 := bI_n c_4
    (try dsimp only [Gs_M] at c_4)
    refine r_iload_n dX12_item_7 rfl rfl ?_
    refine r_iconst (v := 0) dX12_item_8 (by decide) ?_
    refine r_iconst (v := 3) dX12_item_9 (by decide) ?_
    refine r_callS_dI dX12_item_10 (s_X12_in1 g _ _ _ _) mf_X12_in1 mt_X12_in1 ml_X12_63 rfl rfl (Nat.le_of_ble_eq_true rfl) ⟨(Nat.le_of_ble_eq_true rfl), (Nat.le_of_ble_eq_true rfl)⟩ ⟨(Nat.le_of_ble_eq_true rfl), (Nat.le_of_ble_eq_true rfl)⟩ ?_
    refine r_if_ne (tgt := 18) dX12_item_13 (by decide) (fun c_13 => ?_) (fun c_13 => ?_)
    · have c_13 := bI_n c_13
      (try dsimp only [Gs_M] at c_13)
      obtain ⟨ja, hja, rfl⟩ := rng (x := a) 3 (by decide) c_4
      obtain ⟨n, hn, esz⟩ := hZ ja (by omega)
      have esz : M0 66 ja = nI n := esz
      refine r_aload_n dX12_item_18 rfl rfl ?_
      refine r_getR (q := 65) dX12_item_19 (ci := 12) (kf := 18) rfl (Nat.le_of_ble_eq_true rfl) (by decide) (by decide) rfl fl_X12_41 (Or.inl rfl) rfl ?_
      refine r_iload_n dX12_item_22 rfl rfl ?_
      refine r_iald (j := ja) dX12_item_23 rfl (Nat.le_of_ble_eq_true rfl) rfl (by omega) (by decide) ?_
      refine r_if_ge (tgt := 30) dX12_item_24 (by decide) (fun c_24 => ?_) (fun c_24 => ?_)
      · (try dsimp only [Gs_M] at c_24)
        refine r_aload_n dX12_item_30 rfl rfl ?_
        refine r_getR (q := 65) dX12_item_31 (ci := 12) (kf := 18) rfl (Nat.le_of_ble_eq_true rfl) (by decide) (by decide) rfl fl_X12_41 (Or.inl rfl) rfl ?_
        refine r_iload_n dX12_item_34 rfl rfl ?_
        refine r_iald (j := ja) dX12_item_35 rfl (Nat.le_of_ble_eq_true rfl) rfl (by omega) (by decide) ?_
        refine r_iload_n dX12_item_36 rfl rfl ?_
        refine r_icmp_eq (tgt := 43) dX12_item_37 (by decide) (fun c_37 => ?_) (fun c_37 => ?_)
        · (try dsimp only [Gs_M] at c_37)
          refine r_iload_n dX12_item_43 rfl rfl ?_
          refine r_iconst (v := 0) dX12_item_44 (by decide) ?_
          refine r_aload_n dX12_item_45 rfl rfl ?_
          refine r_getR (q := 66) dX12_item_46 (ci := 12) (kf := 19) rfl (Nat.le_of_ble_eq_true rfl) (by decide) (by decide) rfl fl_X12_44 (Or.inl rfl) rfl ?_
          refine r_iload_n dX12_item_49 rfl rfl ?_
          refine r_iald (j := ja) dX12_item_50 rfl (Nat.le_of_ble_eq_true rfl) rfl (by omega) (by decide) ?_
          refine r_iconst (v := 1) dX12_item_51 (by decide) ?_
          refine r_isub dX12_item_52 ?_
          refine r_callS_dI dX12_item_53 (s_X12_in1 g _ _ _ _) mf_X12_in1 mt_X12_in1 ml_X12_63 rfl rfl (Nat.le_of_ble_eq_true rfl) ⟨(Nat.le_of_ble_eq_true rfl), (Nat.le_of_ble_eq_true rfl)⟩ ⟨(Nat.le_of_ble_eq_true rfl), (Nat.le_of_ble_eq_true rfl)⟩ ?_
          refine r_if_eq (tgt := 73) dX12_item_56 (by decide) (fun c_56 => ?_) (fun c_56 => ?_)
          · have c_56 := bI_0 c_56
            (try dsimp only [Gs_M] at c_56)
            refine r_bipush (v := (-12)) dX12_item_73 (by decide) ?_
            refine r_iret dX12_item_75 rfl (Nat.le_refl _) ?_
            (try dsimp only [Gs_M])
            refine ⟨_, rfl, ?_, kp.rf hS⟩
            rw [itemX, if_pos ⟨c_4, c_13⟩, cl_nI (by omega), if_neg (Int32.not_lt.mpr c_24), if_pos c_37, if_neg c_56]
          · have c_56 := bI_n c_56
            (try dsimp only [Gs_M] at c_56)
            obtain ⟨ji, hji, rfl⟩ := rng40 c_56 hn esz
            refine r_aload_n dX12_item_59 rfl rfl ?_
            refine r_getR (q := 67) dX12_item_60 (ci := 12) (kf := 20) rfl (Nat.le_of_ble_eq_true rfl) (by decide) (by decide) rfl fl_X12_47 (Or.inl rfl) rfl ?_
            refine r_bipush (v := 40) dX12_item_63 (by decide) ?_
            refine r_iload_n dX12_item_65 rfl rfl ?_
            refine r_imulN (40) (ja) dX12_item_66 ?_
            refine r_iload_n dX12_item_67 rfl rfl ?_
            refine r_iaddN ((40 * ja)) (ji) dX12_item_68 ?_
            refine r_iald (j := ((40 * ja) + ji)) dX12_item_69 rfl (Nat.le_of_ble_eq_true rfl) rfl (by omega) (by decide) ?_
            refine r_goto (tgt := 75) dX12_item_70 (by decide) ?_
            refine r_iret dX12_item_75 rfl (Nat.le_refl _) ?_
            (try dsimp only [Gs_M])
            refine ⟨_, rfl, ?_, kp.rf hS⟩
            rw [itemX, if_pos ⟨c_4, c_13⟩, cl_nI (by omega), if_neg (Int32.not_lt.mpr c_24), if_pos c_37, if_pos c_56, cl_nI (by omega)]
        · (try dsimp only [Gs_M] at c_37)
          refine r_bipush (v := (-13)) dX12_item_40 (by decide) ?_
          refine r_iret dX12_item_42 rfl (Nat.le_refl _) ?_
          (try dsimp only [Gs_M])
          refine ⟨_, rfl, ?_, kp.rf hS⟩
          rw [itemX, if_pos ⟨c_4, c_13⟩, cl_nI (by omega), if_neg (Int32.not_lt.mpr c_24), if_neg c_37]
      · (try dsimp only [Gs_M] at c_24)
        refine r_bipush (v := (-11)) dX12_item_27 (by decide) ?_
        refine r_iret dX12_item_29 rfl (Nat.le_refl _) ?_
        (try dsimp only [Gs_M])
        refine ⟨_, rfl, ?_, kp.rf hS⟩
        rw [itemX, if_pos ⟨c_4, c_13⟩, cl_nI (by omega), if_pos (Int32.not_le.mp c_24)]
    · have c_13 := bI_0 c_13
      (try dsimp only [Gs_M] at c_13)
      refine r_iconst (v := (-1)) dX12_item_16 (by decide) ?_
      refine r_iret dX12_item_17 rfl (Nat.le_refl _) ?_
      (try dsimp only [Gs_M])
      refine ⟨_, rfl, ?_, kp.rf hS⟩
      rw [itemX, if_neg (fun z => c_13 z.2)]
