theorem acC_init {M : Nat → Nat → Int32} : mSet (mSet (Gs M) 45 1 0) 45 2 0 = Gs (acC M (M 46, 0, 0)) := by
  refine congrArg (fun f => ((71, sh0, rf0, f) : pS)) ?_
  funext q
  by_cases h2 : q = 45
  · subst h2
    funext f
    show upd (upd (M 45) 1 0) 2 0 f = (if f = 1 then nI 0 else if f = 2 then 0 else M 45 f)
    unfold upd
    by_cases h3 : f = 2
    · subst h3; rfl
    · rw [if_neg h3]
      by_cases h4 : f = 1
      · subst h4; rfl
      · rw [if_neg h4, if_neg h4, if_neg h3]
  · have e1 : (mSet (mSet (Gs M) 45 1 0) 45 2 0).2.2.2 q = M q := by rw [mSet_ne h2, mSet_ne h2]; rfl
    refine e1.trans ?_
    show _ = (if q = 46 then _ else if q = 45 then _ else M q)
    by_cases h : q = 46
    · subst h; rfl
    · rw [if_neg h, if_neg h2]
def hldM (M : Nat → Nat → Int32) (c : Nat) (n a : Int32) : Nat → Nat → Int32 := fun q => if q = c then upd (upd (M c) 1 n) 2 a else M q
theorem acC_hold {M : Nat → Nat → Int32} {A : aT} {c : Nat} {n a : Int32} (h1 : c ≠ 45) (h2 : c ≠ 46) : mSet (mSet (Gs (acC M A)) c 1 n) c 2 a = Gs (acC (hldM M c n a) A) := by
  refine congrArg (fun f => ((71, sh0, rf0, f) : pS)) ?_
  funext q
  by_cases h : q = c
  · subst h
    have e1 : (mSet (mSet (Gs (acC M A)) q 1 n) q 2 a).2.2.2 q = upd (upd (M q) 1 n) 2 a := by
      rw [mSet_at, mSet_at]
      show upd (upd (if q = 46 then _ else if q = 45 then _ else M q) 1 n) 2 a = _
      rw [if_neg h2, if_neg h1]
    refine e1.trans ?_
    show _ = (if q = 46 then _ else if q = 45 then _ else (if q = q then _ else M q))
    rw [if_neg h2, if_neg h1, if_pos rfl]
  · have e1 : (mSet (mSet (Gs (acC M A)) c 1 n) c 2 a).2.2.2 q = acC M A q := by rw [mSet_ne h, mSet_ne h]; rfl
    refine e1.trans ?_
    show (if q = 46 then _ else if q = 45 then _ else M q) = (if q = 46 then _ else if q = 45 then (fun f => if f = 1 then _ else if f = 2 then _ else (if 45 = c then _ else M 45) f) else (if q = c then _ else M q))
    rw [if_neg h, if_neg (Ne.symm h1)]
theorem fr_ac {M : Nat → Nat → Int32} {A : aT} {c : Nat} {n a : Int32} (hc : c ∈ [48, 49, 50, 51, 52, 53]) : fr [45, 46, 48, 49, 50, 51, 52, 53] (Gs M) (Gs (acC (hldM M c n a) A)) := ⟨⟨rfl, rfl, rfl⟩, fun q hq => by
  show (if q = 46 then _ else if q = 45 then _ else (if q = c then _ else M q)) = M q
  rw [if_neg (fun z => hq (by rw [z]; decide)), if_neg (fun z => hq (by rw [z]; decide)), if_neg (fun z => hq (by rw [z]; exact List.mem_cons_of_mem _ (List.mem_cons_of_mem _ hc)))]⟩
theorem fr_ac0 {M : Nat → Nat → Int32} {A : aT} : fr [45, 46, 48, 49, 50, 51, 52, 53] (Gs M) (Gs (acC M A)) := ⟨⟨rfl, rfl, rfl⟩, fun q hq => by
  show (if q = 46 then _ else if q = 45 then _ else M q) = M q
  rw [if_neg (fun z => hq (by rw [z]; decide)), if_neg (fun z => hq (by rw [z]; decide))]⟩
theorem vw_ac {M : Nat → Nat → Int32} {A : aT} : vw (Gs (acC M A)) 1 = vw (Gs M) 1 := vw_cong (fun c hc => by
  show (if 1 + c = 46 then _ else if 1 + c = 45 then _ else M (1 + c)) = M (1 + c)
  rw [if_neg (by omega), if_neg (by omega)])
def acP (S0 : pS) (W ho h1 : Nat → Int32) (s act x : Int32) : Option Value → pS → Prop := eI (fun rx S1 => rx = (actX W ho h1 s act x (S0.2.2.2 46)).1 ∧ fr [45, 46, 48, 49, 50, 51, 52, 53] S0 S1 ∧ S1.2.2.2 46 = (actX W ho h1 s act x (S0.2.2.2 46)).2.1 ∧ S1.2.2.2 45 1 = nI (actX W ho h1 s act x (S0.2.2.2 46)).2.2)
/-- the end of an act: r is what the body gave, on the thing in cell c -/
theorem ac_end {M : Nat → Nat → Int32} {W ho h1 : Nat → Int32} {s act x v n a : Int32} {c : Nat} {r : Int32 × aT} (hc : c ∈ [48, 49, 50, 51, 52, 53]) (hh : (0 ≤ s ∧ s ≤ 3) ∧ (0 ≤ act ∧ act ≤ 3) ∧ hoX W ho h1 (cl s) = 0) (hr : actY W h1 s act x (M 46) = r) (hv : v = if r.2.2.2 = 0 then r.1 else -15) : acP (Gs M) W ho h1 s act x (some (.int v)) (Gs (acC (hldM M c n a) r.2)) := by
  have e : actX W ho h1 s act x ((Gs M).2.2.2 46) = (v, r.2.1, r.2.2.1) := by
    unfold actX
    rw [if_pos hh, show actY W h1 s act x ((Gs M).2.2.2 46) = r from hr, hv]
  refine ⟨_, rfl, ?_, fr_ac hc, ?_, ?_⟩
  · rw [e]
  · rw [e]; rfl
  · rw [e]; rfl
theorem ac_no {M : Nat → Nat → Int32} {W ho h1 : Nat → Int32} {s act x : Int32} (hh : ¬ ((0 ≤ s ∧ s ≤ 3) ∧ (0 ≤ act ∧ act ≤ 3) ∧ hoX W ho h1 (cl s) = 0)) : acP (Gs M) W ho h1 s act x (some (.int 0)) (Gs (acC M (M 46, 0, 0))) := by
  have e : actX W ho h1 s act x ((Gs M).2.2.2 46) = (0, M 46, 0) := by
    unfold actX
    rw [if_neg hh]
    rfl
  refine ⟨_, rfl, ?_, fr_ac0, ?_, ?_⟩
  · rw [e]
  · rw [e]; rfl
  · rw [e]; rfl
set_option maxRecDepth 20000 in
set_option maxHeartbeats 1000000 in
theorem s_X9_clear (g : pG) (M : Nat → Nat → Int32) : MS g mX9_clear 1 0 0 [.ref 45] (Gs M) (dV (Gs (acC M (M 46, 0, 0)))) := by
  refine MS.of pn_X9 (Nat.le_of_ble_eq_true rfl) ?_
  refine r_aload_n dX9_clear_0 rfl rfl ?_
  refine r_iconst (v := 0) dX9_clear_1 (by decide) ?_
  refine r_putI dX9_clear_2 (ci := 9) (kf := 1) rfl (Nat.le_of_ble_eq_true rfl) (by decide) (by decide) rfl fl_X9_13 (Or.inl rfl) rfl rfl rfl ?_
  refine r_aload_n dX9_clear_5 rfl rfl ?_
  refine r_iconst (v := 0) dX9_clear_6 (by decide) ?_
  refine r_putI dX9_clear_7 (ci := 9) (kf := 2) rfl (Nat.le_of_ble_eq_true rfl) (by decide) (by decide) rfl fl_X9_17 (Or.inl rfl) rfl rfl rfl ?_
  refine r_vret dX9_clear_10 rfl (Nat.le_refl _) ?_
  (try dsimp only [Gs_M])
  exact ⟨rfl, acC_init⟩
set_option maxRecDepth 20000 in
set_option maxHeartbeats 1000000 in
theorem s_hold_0 (g : pG) (M : Nat → Nat → Int32) (A : aT) (n a : Int32) : MS g mX3_hold 1 0 0 [.ref 48, .int n, .int a] (Gs (acC M A)) (dV (Gs (acC (hldM M 48 n a) A))) := by
  refine MS.of pn_X3 (Nat.le_of_ble_eq_true rfl) ?_
  refine r_aload_n dX3_hold_0 rfl rfl ?_
  refine r_iload_n dX3_hold_1 rfl rfl ?_
  refine r_putI dX3_hold_2 (ci := 3) (kf := 1) rfl (Nat.le_of_ble_eq_true rfl) (by decide) (by decide) rfl fl_X3_13 (Or.inl rfl) rfl rfl rfl ?_
  refine r_aload_n dX3_hold_5 rfl rfl ?_
  refine r_iload_n dX3_hold_6 rfl rfl ?_
  refine r_putI dX3_hold_7 (ci := 3) (kf := 2) rfl (Nat.le_of_ble_eq_true rfl) (by decide) (by decide) rfl fl_X3_17 (Or.inl rfl) rfl rfl rfl ?_
  refine r_vret dX3_hold_10 rfl (Nat.le_refl _) ?_
  (try dsimp only [Gs_M])
  exact ⟨rfl, acC_hold (by decide) (by decide)⟩
set_option maxRecDepth 20000 in
set_option maxHeartbeats 1000000 in
theorem s_hold_1 (g : pG) (M : Nat → Nat → Int32) (A : aT) (n a : Int32) : MS g mX3_hold 1 0 0 [.ref 49, .int n, .int a] (Gs (acC M A)) (dV (Gs (acC (hldM M 49 n a) A))) := by
  refine MS.of pn_X3 (Nat.le_of_ble_eq_true rfl) ?_
  refine r_aload_n dX3_hold_0 rfl rfl ?_
  refine r_iload_n dX3_hold_1 rfl rfl ?_
  refine r_putI dX3_hold_2 (ci := 1) (kf := 1) rfl (Nat.le_of_ble_eq_true rfl) (by decide) (by decide) rfl fl_X3_13 (Or.inl rfl) rfl rfl rfl ?_
  refine r_aload_n dX3_hold_5 rfl rfl ?_
  refine r_iload_n dX3_hold_6 rfl rfl ?_
  refine r_putI dX3_hold_7 (ci := 1) (kf := 2) rfl (Nat.le_of_ble_eq_true rfl) (by decide) (by decide) rfl fl_X3_17 (Or.inl rfl) rfl rfl rfl ?_
  refine r_vret dX3_hold_10 rfl (Nat.le_refl _) ?_
  (try dsimp only [Gs_M])
  exact ⟨rfl, acC_hold (by decide) (by decide)⟩
set_option maxRecDepth 20000 in
set_option maxHeartbeats 1000000 in
theorem s_hold_2 (g : pG) (M : Nat → Nat → Int32) (A : aT) (n a : Int32) : MS g mX3_hold 1 0 0 [.ref 50, .int n, .int a] (Gs (acC M A)) (dV (Gs (acC (hldM M 50 n a) A))) := by
  refine MS.of pn_X3 (Nat.le_of_ble_eq_true rfl) ?_
  refine r_aload_n dX3_hold_0 rfl rfl ?_
  refine r_iload_n dX3_hold_1 rfl rfl ?_
  refine r_putI dX3_hold_2 (ci := 2) (kf := 1) rfl (Nat.le_of_ble_eq_true rfl) (by decide) (by decide) rfl fl_X3_13 (Or.inl rfl) rfl rfl rfl ?_
  refine r_aload_n dX3_hold_5 rfl rfl ?_
  refine r_iload_n dX3_hold_6 rfl rfl ?_
  refine r_putI dX3_hold_7 (ci := 2) (kf := 2) rfl (Nat.le_of_ble_eq_true rfl) (by decide) (by decide) rfl fl_X3_17 (Or.inl rfl) rfl rfl rfl ?_
  refine r_vret dX3_hold_10 rfl (Nat.le_refl _) ?_
  (try dsimp only [Gs_M])
  exact ⟨rfl, acC_hold (by decide) (by decide)⟩
set_option maxRecDepth 20000 in
set_option maxHeartbeats 1000000 in
theorem s_hold_3 (g : pG) (M : Nat → Nat → Int32) (A : aT) (n a : Int32) : MS g mX3_hold 1 0 0 [.ref 51, .int n, .int a] (Gs (acC M A)) (dV (Gs (acC (hldM M 51 n a) A))) := by
  refine MS.of pn_X3 (Nat.le_of_ble_eq_true rfl) ?_
  refine r_aload_n dX3_hold_0 rfl rfl ?_
  refine r_iload_n dX3_hold_1 rfl rfl ?_
  refine r_putI dX3_hold_2 (ci := 5) (kf := 1) rfl (Nat.le_of_ble_eq_true rfl) (by decide) (by decide) rfl fl_X3_13 (Or.inl rfl) rfl rfl rfl ?_
  refine r_aload_n dX3_hold_5 rfl rfl ?_
  refine r_iload_n dX3_hold_6 rfl rfl ?_
  refine r_putI dX3_hold_7 (ci := 5) (kf := 2) rfl (Nat.le_of_ble_eq_true rfl) (by decide) (by decide) rfl fl_X3_17 (Or.inl rfl) rfl rfl rfl ?_
  refine r_vret dX3_hold_10 rfl (Nat.le_refl _) ?_
  (try dsimp only [Gs_M])
  exact ⟨rfl, acC_hold (by decide) (by decide)⟩
set_option maxRecDepth 20000 in
set_option maxHeartbeats 1000000 in
theorem s_hold_4 (g : pG) (M : Nat → Nat → Int32) (A : aT) (n a : Int32) : MS g mX3_hold 1 0 0 [.ref 52, .int n, .int a] (Gs (acC M A)) (dV (Gs (acC (hldM M 52 n a) A))) := by
  refine MS.of pn_X3 (Nat.le_of_ble_eq_true rfl) ?_
  refine r_aload_n dX3_hold_0 rfl rfl ?_
  refine r_iload_n dX3_hold_1 rfl rfl ?_
  refine r_putI dX3_hold_2 (ci := 4) (kf := 1) rfl (Nat.le_of_ble_eq_true rfl) (by decide) (by decide) rfl fl_X3_13 (Or.inl rfl) rfl rfl rfl ?_
  refine r_aload_n dX3_hold_5 rfl rfl ?_
  refine r_iload_n dX3_hold_6 rfl rfl ?_
  refine r_putI dX3_hold_7 (ci := 4) (kf := 2) rfl (Nat.le_of_ble_eq_true rfl) (by decide) (by decide) rfl fl_X3_17 (Or.inl rfl) rfl rfl rfl ?_
  refine r_vret dX3_hold_10 rfl (Nat.le_refl _) ?_
  (try dsimp only [Gs_M])
  exact ⟨rfl, acC_hold (by decide) (by decide)⟩
set_option maxRecDepth 20000 in
set_option maxHeartbeats 1000000 in
theorem s_hold_5 (g : pG) (M : Nat → Nat → Int32) (A : aT) (n a : Int32) : MS g mX3_hold 1 0 0 [.ref 53, .int n, .int a] (Gs (acC M A)) (dV (Gs (acC (hldM M 53 n a) A))) := by
  refine MS.of pn_X3 (Nat.le_of_ble_eq_true rfl) ?_
  refine r_aload_n dX3_hold_0 rfl rfl ?_
  refine r_iload_n dX3_hold_1 rfl rfl ?_
  refine r_putI dX3_hold_2 (ci := 7) (kf := 1) rfl (Nat.le_of_ble_eq_true rfl) (by decide) (by decide) rfl fl_X3_13 (Or.inl rfl) rfl rfl rfl ?_
  refine r_aload_n dX3_hold_5 rfl rfl ?_
  refine r_iload_n dX3_hold_6 rfl rfl ?_
  refine r_putI dX3_hold_7 (ci := 7) (kf := 2) rfl (Nat.le_of_ble_eq_true rfl) (by decide) (by decide) rfl fl_X3_17 (Or.inl rfl) rfl rfl rfl ?_
  refine r_vret dX3_hold_10 rfl (Nat.le_refl _) ?_
  (try dsimp only [Gs_M])
  exact ⟨rfl, acC_hold (by decide) (by decide)⟩
set_option maxRecDepth 20000 in
set_option maxHeartbeats 4000000 in
theorem s_X11_act (g : pG) {S : pS} (hS : sOk S) (hI : InvR (vw S 1)) (hN : InvN (vw S 1)) {ho h1 : Nat → Int32} (hF : SfR S ho h1) (s act x : Int32) : MS g mX11_act 12 0 0 [.ref 0, .int s, .int act, .int x] (S) (acP S (vw S 1) ho h1 s act x) := by
  obtain ⟨M0, rfl⟩ := sOk_gs hS
  obtain ⟨h8, hpl⟩ := hI.pl
  refine MS.of pn_X11 (Nat.le_of_ble_eq_true rfl) ?_
  refine r_aload_n dX11_act_0 rfl rfl ?_
  refine r_getR (q := 45) dX11_act_1 (ci := 11) (kf := 13) rfl (Nat.le_of_ble_eq_true rfl) (by decide) (by decide) rfl fl_X11_64 (Or.inl rfl) rfl ?_
  refine r_callV_dV (ci := 9) dX11_act_4 (s_X9_clear g _) mf_X9_clear mi_X9_clear se_X9_X9_X9_clear ml_X11_300 rfl rfl (Nat.le_of_ble_eq_true rfl) rfl (by decide) rfl (Nat.le_of_ble_eq_true rfl) ⟨(Nat.le_of_ble_eq_true rfl), (Nat.le_of_ble_eq_true rfl)⟩ ⟨(Nat.le_of_ble_eq_true rfl), (Nat.le_of_ble_eq_true rfl)⟩ ?_
  refine r_iload_n dX11_act_7 rfl rfl ?_
  refine r_callS_dI dX11_act_8 (s_X11_isShelf g _ _) mf_X11_isShelf mt_X11_isShelf ml_X11_287 rfl rfl (Nat.le_of_ble_eq_true rfl) ⟨(Nat.le_of_ble_eq_true rfl), (Nat.le_of_ble_eq_true rfl)⟩ ⟨(Nat.le_of_ble_eq_true rfl), (Nat.le_of_ble_eq_true rfl)⟩ ?_
  refine r_if_eq (tgt := 41) dX11_act_11 (by decide) (fun c_11 => ?_) (fun c_11 => ?_)
  · have c_11 := bI_0 c_11
    (try dsimp only [Gs_M] at c_11)
    refine r_iconst (v := 0) dX11_act_41 (by decide) ?_
    refine r_iret dX11_act_42 rfl (Nat.le_refl _) ?_
    (try dsimp only [Gs_M])
    exact ac_no (fun z => c_11 z.1)
  · have c_11 := bI_n c_11
    (try dsimp only [Gs_M] at c_11)
    refine r_iload_n dX11_act_14 rfl rfl ?_
    refine r_if_lt (tgt := 41) dX11_act_15 (by decide) (fun c_15 => ?_) (fun c_15 => ?_)
    · (try dsimp only [Gs_M] at c_15)
      refine r_iconst (v := 0) dX11_act_41 (by decide) ?_
      refine r_iret dX11_act_42 rfl (Nat.le_refl _) ?_
      (try dsimp only [Gs_M])
      exact ac_no (fun z => Int32.not_lt.mpr z.2.1.1 c_15)
    · (try dsimp only [Gs_M] at c_15)
      refine r_iload_n dX11_act_18 rfl rfl ?_
      refine r_iconst (v := 3) dX11_act_19 (by decide) ?_
      refine r_icmp_gt (tgt := 41) dX11_act_20 (by decide) (fun c_20 => ?_) (fun c_20 => ?_)
      · (try dsimp only [Gs_M] at c_20)
        refine r_iconst (v := 0) dX11_act_41 (by decide) ?_
        refine r_iret dX11_act_42 rfl (Nat.le_refl _) ?_
        (try dsimp only [Gs_M])
        exact ac_no (fun z => Int32.not_lt.mpr z.2.1.2 c_20)
      · (try dsimp only [Gs_M] at c_20)
        obtain ⟨ja, hja, rfl⟩ := rng (x := s) 3 (by decide) c_11
        have hSf := hF ja (by omega)
        dsimp only [Gs_M] at hSf
        refine r_aload_n dX11_act_23 rfl rfl ?_
        refine r_iload_n dX11_act_24 rfl rfl ?_
        refine r_callV_dI (ci := 11) dX11_act_25 (s_X11_holdsNothing g (S := Gs (acC M0 (M0 46, 0, 0))) ⟨rfl, rfl, rfl⟩ (by rw [vw_ac]; exact hI) (hF.fr (fr_ac0 (M := M0)) (by decide) (by decide) (by decide)) (ja) (by omega)) mf_X11_holdsNothing mi_X11_holdsNothing se_X11_X11_X11_holdsNothing ml_X11_294 rfl rfl (Nat.le_of_ble_eq_true rfl) rfl (by decide) rfl (Nat.le_of_ble_eq_true rfl) ⟨(Nat.le_of_ble_eq_true rfl), (Nat.le_of_ble_eq_true rfl)⟩ ⟨(Nat.le_of_ble_eq_true rfl), (Nat.le_of_ble_eq_true rfl)⟩ ?_
        rw [vw_ac]
        refine r_if_ne (tgt := 41) dX11_act_28 (by decide) (fun c_28 => ?_) (fun c_28 => ?_)
        · have c_28 := bI_n c_28
          (try dsimp only [Gs_M] at c_28)
          refine r_iconst (v := 0) dX11_act_41 (by decide) ?_
          refine r_iret dX11_act_42 rfl (Nat.le_refl _) ?_
          (try dsimp only [Gs_M])
          exact ac_no (fun z => by have y := z.2.2; rw [cl_nI (by omega)] at y; rw [y] at c_28; exact absurd c_28 (by decide))
        · have c_28 := bI_0 c_28
          (try dsimp only [Gs_M] at c_28)
          refine r_aload_n dX11_act_31 rfl rfl ?_
          refine r_getR (q := 42) dX11_act_32 (ci := 11) (kf := 10) rfl (Nat.le_of_ble_eq_true rfl) (by decide) (by decide) rfl fl_X11_52 (Or.inl rfl) rfl ?_
          refine r_iload_n dX11_act_35 rfl rfl ?_
          refine r_iald (j := ja) dX11_act_36 rfl (Nat.le_of_ble_eq_true rfl) rfl (by omega) (by decide) ?_
          refine r_iconst (v := 2) dX11_act_37 (by decide) ?_
          refine r_icmp_ne (tgt := 43) dX11_act_38 (by decide) (fun c_38 => ?_) (fun c_38 => ?_)
          · (try dsimp only [Gs_M] at c_38)
            refine r_aload_n dX11_act_43 rfl rfl ?_
            refine r_getR (q := 43) dX11_act_44 (ci := 11) (kf := 11) rfl (Nat.le_of_ble_eq_true rfl) (by decide) (by decide) rfl fl_X11_55 (Or.inl rfl) rfl ?_
            refine r_iload_n dX11_act_47 rfl rfl ?_
            refine r_iald (j := ja) dX11_act_48 rfl (Nat.le_of_ble_eq_true rfl) rfl (by omega) (by decide) ?_
            refine r_istore dX11_act_49 (by decide) ?_
            obtain ⟨eho, en, e1x⟩ := sf_one hSf c_28 c_38
            obtain ⟨k, hk, ek⟩ := rngP (ho0 eho) h8 hpl
            have hk8 : k < 8 := by omega
            obtain ⟨kd, hkd, ekd⟩ := (hN.2.2 k hk8).1
            obtain ⟨o1, eow⟩ : ∃ o1, vw (Gs M0) 1 (16 + 11 * k + 1) = o1 := ⟨_, rfl⟩
            have hh : (0 ≤ nI ja ∧ nI ja ≤ 3) ∧ (0 ≤ act ∧ act ≤ 3) ∧ hoX (vw (Gs M0) 1) ho h1 (cl (nI ja)) = 0 := ⟨c_11, ⟨Int32.not_lt.mp c_15, Int32.not_lt.mp c_20⟩, by rw [cl_nI (by omega)]; exact eho⟩
            rw [show (Gs (acC M0 (M0 46, 0, 0))).2.2.2 43 ja = nI k from en.trans ek]
            have J0 : vw (Gs M0) 1 (16 + 11 * k + 0) = nI 0 → PW g mX11_act (eN g (Gs M0).1 12 0 0 (acP (Gs M0) (vw (Gs M0) 1) ho h1 (nI ja) act x)) 51 [some (.ref 0), some (.int (nI ja)), some (.int act), some (.int x), some (.int (nI k)), none, none] [] (Gs (acC M0 (M0 46, 0, 0))) 0 0 := by
              intro ekd
              refine r_aload_n dX11_act_51 rfl rfl ?_
              refine r_getR (q := 47) dX11_act_52 (ci := 11) (kf := 14) rfl (Nat.le_of_ble_eq_true rfl) (by decide) (by decide) rfl fl_X11_88 (Or.inl rfl) rfl ?_
              refine r_aload_n dX11_act_55 rfl rfl ?_
              refine r_getR (q := 1) dX11_act_56 (ci := 11) (kf := 0) rfl (Nat.le_of_ble_eq_true rfl) (by decide) (by decide) rfl fl_X11_10 (Or.inl rfl) rfl ?_
              refine r_getR (q := (1 + 3)) dX11_act_59 (ci := 0) (kf := 2) rfl (Nat.le_of_ble_eq_true rfl) (by decide) (by decide) rfl fl_X11_153 (Or.inl rfl) (CoG (Or.inl rfl)).2.2.2.2.2.1 ?_
              refine r_iload dX11_act_62 rfl ?_
              refine r_iald (j := k) dX11_act_64 (CoG (Or.inl rfl)).2.2.1.2.2.1 (Co_la3 (CoG (Or.inl rfl))) rfl (by omega) (by decide) ?_
              rw [show (Gs (acC M0 (M0 46, 0, 0))).2.2.2 (1 + 3) k = nI 0 from (vw_k (S := Gs M0) (b := 1) (by omega)).symm.trans ekd]
              refine r_aaldP (q := 48) (j := 0) dX11_act_65 rfl (Nat.le_of_ble_eq_true rfl) rfl (by decide) (by decide) rfl ?_
              refine r_astore dX11_act_66 (by decide) ?_
              refine r_aload dX11_act_68 rfl ?_
              refine r_iload dX11_act_70 rfl ?_
              refine r_aload_n dX11_act_72 rfl rfl ?_
              refine r_getR (q := 1) dX11_act_73 (ci := 11) (kf := 0) rfl (Nat.le_of_ble_eq_true rfl) (by decide) (by decide) rfl fl_X11_10 (Or.inl rfl) rfl ?_
              refine r_getR (q := (1 + 4)) dX11_act_76 (ci := 0) (kf := 3) rfl (Nat.le_of_ble_eq_true rfl) (by decide) (by decide) rfl fl_X11_156 (Or.inl rfl) (CoG (Or.inl rfl)).2.2.2.2.2.2.1 ?_
              refine r_iload dX11_act_79 rfl ?_
              refine r_iald (j := k) dX11_act_81 (CoG (Or.inl rfl)).2.2.1.2.2.2.1 (Co_la4 (CoG (Or.inl rfl))) rfl (by omega) (by decide) ?_
              rw [show (Gs (acC M0 (M0 46, 0, 0))).2.2.2 (1 + 4) k = o1 from (vw_o (S := Gs M0) (b := 1) (by omega)).symm.trans eow]
              refine r_callU_dV (ci := 3) dX11_act_82 (s_hold_0 g _ _ _ _) mf_X3_hold mi_X3_hold se_X3_X3_X3_hold ml_X11_303 sm_X3_X3_hold rfl rfl rfl (Nat.le_of_ble_eq_true rfl) rfl (by decide) (Nat.le_of_ble_eq_true rfl) ⟨(Nat.le_of_ble_eq_true rfl), (Nat.le_of_ble_eq_true rfl)⟩ ⟨(Nat.le_of_ble_eq_true rfl), (Nat.le_of_ble_eq_true rfl)⟩ ?_
              refine r_iconst (v := 0) dX11_act_85 (by decide) ?_
              refine r_istore dX11_act_86 (by decide) ?_
              skip
              refine r_iload_n dX11_act_88 rfl rfl ?_
              by_cases e_89_0 : act = 0
              · refine r_tableAt (tgt := 116) 0 dX11_act_89 e_89_0 (by decide) (by decide) rfl (by decide) ?_
                refine r_aload dX11_act_116 rfl ?_
                refine r_iload_n dX11_act_118 rfl rfl ?_
                skip
                refine r_callU_dI (ci := 3) dX11_act_119 (s_bw_0 g (A := (M0 46, 0, 0)) (Nat.zero_le _) k o1 rfl rfl _) mf_X3_bows mi_X3_bows se_X3_X3_X3_bows ml_X11_306 sm_X3_X3_bows rfl rfl rfl (Nat.le_of_ble_eq_true rfl) rfl (by decide) (Nat.le_of_ble_eq_true rfl) ⟨(Nat.le_of_ble_eq_true rfl), (Nat.le_of_ble_eq_true rfl)⟩ ⟨(Nat.le_of_ble_eq_true rfl), (Nat.le_of_ble_eq_true rfl)⟩ ?_
                refine r_istore dX11_act_122 (by decide) ?_
                refine r_goto (tgt := 157) dX11_act_124 (by decide) ?_
                refine r_aload_n dX11_act_157 rfl rfl ?_
                refine r_getR (q := 45) dX11_act_158 (ci := 11) (kf := 13) rfl (Nat.le_of_ble_eq_true rfl) (by decide) (by decide) rfl fl_X11_64 (Or.inl rfl) rfl ?_
                refine r_getI dX11_act_161 (ci := 9) (kf := 2) rfl (Nat.le_of_ble_eq_true rfl) (by decide) (by decide) rfl fl_X11_318 (Or.inl rfl) ?_
                rw [acC_p]
                refine r_if_eq (tgt := 172) dX11_act_164 (by decide) (fun c_164 => ?_) (fun c_164 => ?_)
                · (try dsimp only [Gs_M] at c_164)
                  refine r_iload dX11_act_172 rfl ?_
                  refine r_iret dX11_act_174 rfl (Nat.le_refl _) ?_
                  (try dsimp only [Gs_M])
                  exact ac_end (r := bowK k 0 x (M0 46, 0, 0)) (by decide) hh (by rw [actY, cl_nI (by omega), ek, cl_nI (by omega), ekd, eow, cl_nI (by omega), actK, if_pos e_89_0]) (if_pos c_164).symm
                · (try dsimp only [Gs_M] at c_164)
                  refine r_bipush (v := (-15)) dX11_act_167 (by decide) ?_
                  refine r_goto (tgt := 174) dX11_act_169 (by decide) ?_
                  refine r_iret dX11_act_174 rfl (Nat.le_refl _) ?_
                  (try dsimp only [Gs_M])
                  exact ac_end (r := bowK k 0 x (M0 46, 0, 0)) (by decide) hh (by rw [actY, cl_nI (by omega), ek, cl_nI (by omega), ekd, eow, cl_nI (by omega), actK, if_pos e_89_0]) (if_neg c_164).symm
              by_cases e_89_1 : act = 1
              · refine r_tableAt (tgt := 127) 1 dX11_act_89 e_89_1 (by decide) (by decide) rfl (by decide) ?_
                refine r_aload dX11_act_127 rfl ?_
                refine r_iload_n dX11_act_129 rfl rfl ?_
                skip
                refine r_callU_dI (ci := 3) dX11_act_130 (s_sg_0 g (A := (M0 46, 0, 0)) (Nat.zero_le _) k o1 rfl rfl _) mf_X3_sings mi_X3_sings se_X3_X3_X3_sings ml_X11_309 sm_X3_X3_sings rfl rfl rfl (Nat.le_of_ble_eq_true rfl) rfl (by decide) (Nat.le_of_ble_eq_true rfl) ⟨(Nat.le_of_ble_eq_true rfl), (Nat.le_of_ble_eq_true rfl)⟩ ⟨(Nat.le_of_ble_eq_true rfl), (Nat.le_of_ble_eq_true rfl)⟩ ?_
                refine r_istore dX11_act_133 (by decide) ?_
                refine r_goto (tgt := 157) dX11_act_135 (by decide) ?_
                refine r_aload_n dX11_act_157 rfl rfl ?_
                refine r_getR (q := 45) dX11_act_158 (ci := 11) (kf := 13) rfl (Nat.le_of_ble_eq_true rfl) (by decide) (by decide) rfl fl_X11_64 (Or.inl rfl) rfl ?_
                refine r_getI dX11_act_161 (ci := 9) (kf := 2) rfl (Nat.le_of_ble_eq_true rfl) (by decide) (by decide) rfl fl_X11_318 (Or.inl rfl) ?_
                rw [acC_p]
                refine r_if_eq (tgt := 172) dX11_act_164 (by decide) (fun c_164 => ?_) (fun c_164 => ?_)
                · (try dsimp only [Gs_M] at c_164)
                  refine r_iload dX11_act_172 rfl ?_
                  refine r_iret dX11_act_174 rfl (Nat.le_refl _) ?_
                  (try dsimp only [Gs_M])
                  exact ac_end (r := sngK k 0 o1 0 x (M0 46, 0, 0)) (by decide) hh (by rw [actY, cl_nI (by omega), ek, cl_nI (by omega), ekd, eow, cl_nI (by omega), actK, if_neg e_89_0, if_pos e_89_1]) (if_pos c_164).symm
                · (try dsimp only [Gs_M] at c_164)
                  refine r_bipush (v := (-15)) dX11_act_167 (by decide) ?_
                  refine r_goto (tgt := 174) dX11_act_169 (by decide) ?_
                  refine r_iret dX11_act_174 rfl (Nat.le_refl _) ?_
                  (try dsimp only [Gs_M])
                  exact ac_end (r := sngK k 0 o1 0 x (M0 46, 0, 0)) (by decide) hh (by rw [actY, cl_nI (by omega), ek, cl_nI (by omega), ekd, eow, cl_nI (by omega), actK, if_neg e_89_0, if_pos e_89_1]) (if_neg c_164).symm
              by_cases e_89_2 : act = 2
              · refine r_tableAt (tgt := 138) 2 dX11_act_89 e_89_2 (by decide) (by decide) rfl (by decide) ?_
                refine r_aload dX11_act_138 rfl ?_
                refine r_iload_n dX11_act_140 rfl rfl ?_
                skip
                refine r_callU_dI (ci := 3) dX11_act_141 (s_pr_0 g (A := (M0 46, 0, 0)) (Nat.zero_le _) k o1 rfl rfl rfl _) mf_X3_parts mi_X3_parts se_X3_X3_X3_parts ml_X11_312 sm_X3_X3_parts rfl rfl rfl (Nat.le_of_ble_eq_true rfl) rfl (by decide) (Nat.le_of_ble_eq_true rfl) ⟨(Nat.le_of_ble_eq_true rfl), (Nat.le_of_ble_eq_true rfl)⟩ ⟨(Nat.le_of_ble_eq_true rfl), (Nat.le_of_ble_eq_true rfl)⟩ ?_
                refine r_istore dX11_act_144 (by decide) ?_
                refine r_goto (tgt := 157) dX11_act_146 (by decide) ?_
                refine r_aload_n dX11_act_157 rfl rfl ?_
                refine r_getR (q := 45) dX11_act_158 (ci := 11) (kf := 13) rfl (Nat.le_of_ble_eq_true rfl) (by decide) (by decide) rfl fl_X11_64 (Or.inl rfl) rfl ?_
                refine r_getI dX11_act_161 (ci := 9) (kf := 2) rfl (Nat.le_of_ble_eq_true rfl) (by decide) (by decide) rfl fl_X11_318 (Or.inl rfl) ?_
                rw [acC_p]
                refine r_if_eq (tgt := 172) dX11_act_164 (by decide) (fun c_164 => ?_) (fun c_164 => ?_)
                · (try dsimp only [Gs_M] at c_164)
                  refine r_iload dX11_act_172 rfl ?_
                  refine r_iret dX11_act_174 rfl (Nat.le_refl _) ?_
                  (try dsimp only [Gs_M])
                  exact ac_end (r := prtK k o1 0 x (M0 46, 0, 0)) (by decide) hh (by rw [actY, cl_nI (by omega), ek, cl_nI (by omega), ekd, eow, cl_nI (by omega), actK, if_neg e_89_0, if_neg e_89_1, if_pos e_89_2]) (if_pos c_164).symm
                · (try dsimp only [Gs_M] at c_164)
                  refine r_bipush (v := (-15)) dX11_act_167 (by decide) ?_
                  refine r_goto (tgt := 174) dX11_act_169 (by decide) ?_
                  refine r_iret dX11_act_174 rfl (Nat.le_refl _) ?_
                  (try dsimp only [Gs_M])
                  exact ac_end (r := prtK k o1 0 x (M0 46, 0, 0)) (by decide) hh (by rw [actY, cl_nI (by omega), ek, cl_nI (by omega), ekd, eow, cl_nI (by omega), actK, if_neg e_89_0, if_neg e_89_1, if_pos e_89_2]) (if_neg c_164).symm
              refine r_tableOut (tgt := 149) dX11_act_89 (out_of2 (lo := 0) (n := 2) (by decide) (fun j hl hj => ?_)) (by decide) ?_
              · rcases (by omega : j = 0 ∨ j = 1 ∨ j = 2) with rfl | rfl | rfl
                · exact e_89_0
                · exact e_89_1
                · exact e_89_2
              refine r_aload dX11_act_149 rfl ?_
              refine r_iload_n dX11_act_151 rfl rfl ?_
              skip
              refine r_callU_dI (ci := 3) dX11_act_152 (s_mv_0 g (A := (M0 46, 0, 0)) (Nat.zero_le _) k o1 rfl rfl rfl _) mf_X3_moves mi_X3_moves se_X3_X3_X3_moves ml_X11_315 sm_X3_X3_moves rfl rfl rfl (Nat.le_of_ble_eq_true rfl) rfl (by decide) (Nat.le_of_ble_eq_true rfl) ⟨(Nat.le_of_ble_eq_true rfl), (Nat.le_of_ble_eq_true rfl)⟩ ⟨(Nat.le_of_ble_eq_true rfl), (Nat.le_of_ble_eq_true rfl)⟩ ?_
              refine r_istore dX11_act_155 (by decide) ?_
              refine r_aload_n dX11_act_157 rfl rfl ?_
              refine r_getR (q := 45) dX11_act_158 (ci := 11) (kf := 13) rfl (Nat.le_of_ble_eq_true rfl) (by decide) (by decide) rfl fl_X11_64 (Or.inl rfl) rfl ?_
              refine r_getI dX11_act_161 (ci := 9) (kf := 2) rfl (Nat.le_of_ble_eq_true rfl) (by decide) (by decide) rfl fl_X11_318 (Or.inl rfl) ?_
              rw [acC_p]
              refine r_if_eq (tgt := 172) dX11_act_164 (by decide) (fun c_164 => ?_) (fun c_164 => ?_)
              · (try dsimp only [Gs_M] at c_164)
                refine r_iload dX11_act_172 rfl ?_
                refine r_iret dX11_act_174 rfl (Nat.le_refl _) ?_
                (try dsimp only [Gs_M])
                exact ac_end (r := movK k 0 o1 0 x (M0 46, 0, 0)) (by decide) hh (by rw [actY, cl_nI (by omega), ek, cl_nI (by omega), ekd, eow, cl_nI (by omega), actK, if_neg e_89_0, if_neg e_89_1, if_neg e_89_2]) (if_pos c_164).symm
              · (try dsimp only [Gs_M] at c_164)
                refine r_bipush (v := (-15)) dX11_act_167 (by decide) ?_
                refine r_goto (tgt := 174) dX11_act_169 (by decide) ?_
                refine r_iret dX11_act_174 rfl (Nat.le_refl _) ?_
                (try dsimp only [Gs_M])
                exact ac_end (r := movK k 0 o1 0 x (M0 46, 0, 0)) (by decide) hh (by rw [actY, cl_nI (by omega), ek, cl_nI (by omega), ekd, eow, cl_nI (by omega), actK, if_neg e_89_0, if_neg e_89_1, if_neg e_89_2]) (if_neg c_164).symm
            have J1 : vw (Gs M0) 1 (16 + 11 * k + 0) = nI 1 → PW g mX11_act (eN g (Gs M0).1 12 0 0 (acP (Gs M0) (vw (Gs M0) 1) ho h1 (nI ja) act x)) 51 [some (.ref 0), some (.int (nI ja)), some (.int act), some (.int x), some (.int (nI k)), none, none] [] (Gs (acC M0 (M0 46, 0, 0))) 0 0 := by
              intro ekd
              refine r_aload_n dX11_act_51 rfl rfl ?_
              refine r_getR (q := 47) dX11_act_52 (ci := 11) (kf := 14) rfl (Nat.le_of_ble_eq_true rfl) (by decide) (by decide) rfl fl_X11_88 (Or.inl rfl) rfl ?_
              refine r_aload_n dX11_act_55 rfl rfl ?_
              refine r_getR (q := 1) dX11_act_56 (ci := 11) (kf := 0) rfl (Nat.le_of_ble_eq_true rfl) (by decide) (by decide) rfl fl_X11_10 (Or.inl rfl) rfl ?_
              refine r_getR (q := (1 + 3)) dX11_act_59 (ci := 0) (kf := 2) rfl (Nat.le_of_ble_eq_true rfl) (by decide) (by decide) rfl fl_X11_153 (Or.inl rfl) (CoG (Or.inl rfl)).2.2.2.2.2.1 ?_
              refine r_iload dX11_act_62 rfl ?_
              refine r_iald (j := k) dX11_act_64 (CoG (Or.inl rfl)).2.2.1.2.2.1 (Co_la3 (CoG (Or.inl rfl))) rfl (by omega) (by decide) ?_
              rw [show (Gs (acC M0 (M0 46, 0, 0))).2.2.2 (1 + 3) k = nI 1 from (vw_k (S := Gs M0) (b := 1) (by omega)).symm.trans ekd]
              refine r_aaldP (q := 49) (j := 1) dX11_act_65 rfl (Nat.le_of_ble_eq_true rfl) rfl (by decide) (by decide) rfl ?_
              refine r_astore dX11_act_66 (by decide) ?_
              refine r_aload dX11_act_68 rfl ?_
              refine r_iload dX11_act_70 rfl ?_
              refine r_aload_n dX11_act_72 rfl rfl ?_
              refine r_getR (q := 1) dX11_act_73 (ci := 11) (kf := 0) rfl (Nat.le_of_ble_eq_true rfl) (by decide) (by decide) rfl fl_X11_10 (Or.inl rfl) rfl ?_
              refine r_getR (q := (1 + 4)) dX11_act_76 (ci := 0) (kf := 3) rfl (Nat.le_of_ble_eq_true rfl) (by decide) (by decide) rfl fl_X11_156 (Or.inl rfl) (CoG (Or.inl rfl)).2.2.2.2.2.2.1 ?_
              refine r_iload dX11_act_79 rfl ?_
              refine r_iald (j := k) dX11_act_81 (CoG (Or.inl rfl)).2.2.1.2.2.2.1 (Co_la4 (CoG (Or.inl rfl))) rfl (by omega) (by decide) ?_
              rw [show (Gs (acC M0 (M0 46, 0, 0))).2.2.2 (1 + 4) k = o1 from (vw_o (S := Gs M0) (b := 1) (by omega)).symm.trans eow]
              refine r_callU_dV (ci := 1) dX11_act_82 (s_hold_1 g _ _ _ _) mf_X3_hold mi_X3_hold se_X1_X3_X3_hold ml_X11_303 sm_X3_X3_hold rfl rfl rfl (Nat.le_of_ble_eq_true rfl) rfl (by decide) (Nat.le_of_ble_eq_true rfl) ⟨(Nat.le_of_ble_eq_true rfl), (Nat.le_of_ble_eq_true rfl)⟩ ⟨(Nat.le_of_ble_eq_true rfl), (Nat.le_of_ble_eq_true rfl)⟩ ?_
              refine r_iconst (v := 0) dX11_act_85 (by decide) ?_
              refine r_istore dX11_act_86 (by decide) ?_
              skip
              refine r_iload_n dX11_act_88 rfl rfl ?_
              by_cases e_89_0 : act = 0
              · refine r_tableAt (tgt := 116) 0 dX11_act_89 e_89_0 (by decide) (by decide) rfl (by decide) ?_
                refine r_aload dX11_act_116 rfl ?_
                refine r_iload_n dX11_act_118 rfl rfl ?_
                skip
                refine r_callU_dI (ci := 1) dX11_act_119 (s_bw_1 g (A := (M0 46, 0, 0)) (Nat.zero_le _) k o1 rfl rfl _) mf_X3_bows mi_X3_bows se_X1_X3_X3_bows ml_X11_306 sm_X3_X3_bows rfl rfl rfl (Nat.le_of_ble_eq_true rfl) rfl (by decide) (Nat.le_of_ble_eq_true rfl) ⟨(Nat.le_of_ble_eq_true rfl), (Nat.le_of_ble_eq_true rfl)⟩ ⟨(Nat.le_of_ble_eq_true rfl), (Nat.le_of_ble_eq_true rfl)⟩ ?_
                refine r_istore dX11_act_122 (by decide) ?_
                refine r_goto (tgt := 157) dX11_act_124 (by decide) ?_
                refine r_aload_n dX11_act_157 rfl rfl ?_
                refine r_getR (q := 45) dX11_act_158 (ci := 11) (kf := 13) rfl (Nat.le_of_ble_eq_true rfl) (by decide) (by decide) rfl fl_X11_64 (Or.inl rfl) rfl ?_
                refine r_getI dX11_act_161 (ci := 9) (kf := 2) rfl (Nat.le_of_ble_eq_true rfl) (by decide) (by decide) rfl fl_X11_318 (Or.inl rfl) ?_
                rw [acC_p]
                refine r_if_eq (tgt := 172) dX11_act_164 (by decide) (fun c_164 => ?_) (fun c_164 => ?_)
                · (try dsimp only [Gs_M] at c_164)
                  refine r_iload dX11_act_172 rfl ?_
                  refine r_iret dX11_act_174 rfl (Nat.le_refl _) ?_
                  (try dsimp only [Gs_M])
                  exact ac_end (r := bowK k 1 x (M0 46, 0, 0)) (by decide) hh (by rw [actY, cl_nI (by omega), ek, cl_nI (by omega), ekd, eow, cl_nI (by omega), actK, if_pos e_89_0]) (if_pos c_164).symm
                · (try dsimp only [Gs_M] at c_164)
                  refine r_bipush (v := (-15)) dX11_act_167 (by decide) ?_
                  refine r_goto (tgt := 174) dX11_act_169 (by decide) ?_
                  refine r_iret dX11_act_174 rfl (Nat.le_refl _) ?_
                  (try dsimp only [Gs_M])
                  exact ac_end (r := bowK k 1 x (M0 46, 0, 0)) (by decide) hh (by rw [actY, cl_nI (by omega), ek, cl_nI (by omega), ekd, eow, cl_nI (by omega), actK, if_pos e_89_0]) (if_neg c_164).symm
              by_cases e_89_1 : act = 1
              · refine r_tableAt (tgt := 127) 1 dX11_act_89 e_89_1 (by decide) (by decide) rfl (by decide) ?_
                refine r_aload dX11_act_127 rfl ?_
                refine r_iload_n dX11_act_129 rfl rfl ?_
                skip
                refine r_callO_dI (ci := 1) dX11_act_130 (s_sg_1 g (A := (M0 46, 0, 0)) (Nat.zero_le _) k o1 rfl rfl _) mf_X1_sings mi_X1_sings se_X1_X3_X1_sings ml_X11_309 sm_X3_X3_sings mi_X3_sings cd_X3_sings ⟨by decide, by decide⟩ rfl rfl rfl (Nat.le_of_ble_eq_true rfl) rfl (by decide) (Nat.le_of_ble_eq_true rfl) ⟨(Nat.le_of_ble_eq_true rfl), (Nat.le_of_ble_eq_true rfl)⟩ ⟨(Nat.le_of_ble_eq_true rfl), (Nat.le_of_ble_eq_true rfl)⟩ ?_
                refine r_istore dX11_act_133 (by decide) ?_
                refine r_goto (tgt := 157) dX11_act_135 (by decide) ?_
                refine r_aload_n dX11_act_157 rfl rfl ?_
                refine r_getR (q := 45) dX11_act_158 (ci := 11) (kf := 13) rfl (Nat.le_of_ble_eq_true rfl) (by decide) (by decide) rfl fl_X11_64 (Or.inl rfl) rfl ?_
                refine r_getI dX11_act_161 (ci := 9) (kf := 2) rfl (Nat.le_of_ble_eq_true rfl) (by decide) (by decide) rfl fl_X11_318 (Or.inl rfl) ?_
                rw [acC_p]
                refine r_if_eq (tgt := 172) dX11_act_164 (by decide) (fun c_164 => ?_) (fun c_164 => ?_)
                · (try dsimp only [Gs_M] at c_164)
                  refine r_iload dX11_act_172 rfl ?_
                  refine r_iret dX11_act_174 rfl (Nat.le_refl _) ?_
                  (try dsimp only [Gs_M])
                  exact ac_end (r := sngK k 1 o1 1 x (M0 46, 0, 0)) (by decide) hh (by rw [actY, cl_nI (by omega), ek, cl_nI (by omega), ekd, eow, cl_nI (by omega), actK, if_neg e_89_0, if_pos e_89_1]) (if_pos c_164).symm
                · (try dsimp only [Gs_M] at c_164)
                  refine r_bipush (v := (-15)) dX11_act_167 (by decide) ?_
                  refine r_goto (tgt := 174) dX11_act_169 (by decide) ?_
                  refine r_iret dX11_act_174 rfl (Nat.le_refl _) ?_
                  (try dsimp only [Gs_M])
                  exact ac_end (r := sngK k 1 o1 1 x (M0 46, 0, 0)) (by decide) hh (by rw [actY, cl_nI (by omega), ek, cl_nI (by omega), ekd, eow, cl_nI (by omega), actK, if_neg e_89_0, if_pos e_89_1]) (if_neg c_164).symm
              by_cases e_89_2 : act = 2
              · refine r_tableAt (tgt := 138) 2 dX11_act_89 e_89_2 (by decide) (by decide) rfl (by decide) ?_
                refine r_aload dX11_act_138 rfl ?_
                refine r_iload_n dX11_act_140 rfl rfl ?_
                skip
                refine r_callU_dI (ci := 1) dX11_act_141 (s_pr_1 g (A := (M0 46, 0, 0)) (Nat.zero_le _) k o1 rfl rfl rfl _) mf_X3_parts mi_X3_parts se_X1_X3_X3_parts ml_X11_312 sm_X3_X3_parts rfl rfl rfl (Nat.le_of_ble_eq_true rfl) rfl (by decide) (Nat.le_of_ble_eq_true rfl) ⟨(Nat.le_of_ble_eq_true rfl), (Nat.le_of_ble_eq_true rfl)⟩ ⟨(Nat.le_of_ble_eq_true rfl), (Nat.le_of_ble_eq_true rfl)⟩ ?_
                refine r_istore dX11_act_144 (by decide) ?_
                refine r_goto (tgt := 157) dX11_act_146 (by decide) ?_
                refine r_aload_n dX11_act_157 rfl rfl ?_
                refine r_getR (q := 45) dX11_act_158 (ci := 11) (kf := 13) rfl (Nat.le_of_ble_eq_true rfl) (by decide) (by decide) rfl fl_X11_64 (Or.inl rfl) rfl ?_
                refine r_getI dX11_act_161 (ci := 9) (kf := 2) rfl (Nat.le_of_ble_eq_true rfl) (by decide) (by decide) rfl fl_X11_318 (Or.inl rfl) ?_
                rw [acC_p]
                refine r_if_eq (tgt := 172) dX11_act_164 (by decide) (fun c_164 => ?_) (fun c_164 => ?_)
                · (try dsimp only [Gs_M] at c_164)
                  refine r_iload dX11_act_172 rfl ?_
                  refine r_iret dX11_act_174 rfl (Nat.le_refl _) ?_
                  (try dsimp only [Gs_M])
                  exact ac_end (r := prtK k o1 1 x (M0 46, 0, 0)) (by decide) hh (by rw [actY, cl_nI (by omega), ek, cl_nI (by omega), ekd, eow, cl_nI (by omega), actK, if_neg e_89_0, if_neg e_89_1, if_pos e_89_2]) (if_pos c_164).symm
                · (try dsimp only [Gs_M] at c_164)
                  refine r_bipush (v := (-15)) dX11_act_167 (by decide) ?_
                  refine r_goto (tgt := 174) dX11_act_169 (by decide) ?_
                  refine r_iret dX11_act_174 rfl (Nat.le_refl _) ?_
                  (try dsimp only [Gs_M])
                  exact ac_end (r := prtK k o1 1 x (M0 46, 0, 0)) (by decide) hh (by rw [actY, cl_nI (by omega), ek, cl_nI (by omega), ekd, eow, cl_nI (by omega), actK, if_neg e_89_0, if_neg e_89_1, if_pos e_89_2]) (if_neg c_164).symm
              refine r_tableOut (tgt := 149) dX11_act_89 (out_of2 (lo := 0) (n := 2) (by decide) (fun j hl hj => ?_)) (by decide) ?_
              · rcases (by omega : j = 0 ∨ j = 1 ∨ j = 2) with rfl | rfl | rfl
                · exact e_89_0
                · exact e_89_1
                · exact e_89_2
              refine r_aload dX11_act_149 rfl ?_
              refine r_iload_n dX11_act_151 rfl rfl ?_
              skip
              refine r_callU_dI (ci := 1) dX11_act_152 (s_mv_1 g (A := (M0 46, 0, 0)) (Nat.zero_le _) k o1 rfl rfl rfl _) mf_X3_moves mi_X3_moves se_X1_X3_X3_moves ml_X11_315 sm_X3_X3_moves rfl rfl rfl (Nat.le_of_ble_eq_true rfl) rfl (by decide) (Nat.le_of_ble_eq_true rfl) ⟨(Nat.le_of_ble_eq_true rfl), (Nat.le_of_ble_eq_true rfl)⟩ ⟨(Nat.le_of_ble_eq_true rfl), (Nat.le_of_ble_eq_true rfl)⟩ ?_
              refine r_istore dX11_act_155 (by decide) ?_
              refine r_aload_n dX11_act_157 rfl rfl ?_
              refine r_getR (q := 45) dX11_act_158 (ci := 11) (kf := 13) rfl (Nat.le_of_ble_eq_true rfl) (by decide) (by decide) rfl fl_X11_64 (Or.inl rfl) rfl ?_
              refine r_getI dX11_act_161 (ci := 9) (kf := 2) rfl (Nat.le_of_ble_eq_true rfl) (by decide) (by decide) rfl fl_X11_318 (Or.inl rfl) ?_
              rw [acC_p]
              refine r_if_eq (tgt := 172) dX11_act_164 (by decide) (fun c_164 => ?_) (fun c_164 => ?_)
              · (try dsimp only [Gs_M] at c_164)
                refine r_iload dX11_act_172 rfl ?_
                refine r_iret dX11_act_174 rfl (Nat.le_refl _) ?_
                (try dsimp only [Gs_M])
                exact ac_end (r := movK k 1 o1 1 x (M0 46, 0, 0)) (by decide) hh (by rw [actY, cl_nI (by omega), ek, cl_nI (by omega), ekd, eow, cl_nI (by omega), actK, if_neg e_89_0, if_neg e_89_1, if_neg e_89_2]) (if_pos c_164).symm
              · (try dsimp only [Gs_M] at c_164)
                refine r_bipush (v := (-15)) dX11_act_167 (by decide) ?_
                refine r_goto (tgt := 174) dX11_act_169 (by decide) ?_
                refine r_iret dX11_act_174 rfl (Nat.le_refl _) ?_
                (try dsimp only [Gs_M])
                exact ac_end (r := movK k 1 o1 1 x (M0 46, 0, 0)) (by decide) hh (by rw [actY, cl_nI (by omega), ek, cl_nI (by omega), ekd, eow, cl_nI (by omega), actK, if_neg e_89_0, if_neg e_89_1, if_neg e_89_2]) (if_neg c_164).symm
            have J2 : vw (Gs M0) 1 (16 + 11 * k + 0) = nI 2 → PW g mX11_act (eN g (Gs M0).1 12 0 0 (acP (Gs M0) (vw (Gs M0) 1) ho h1 (nI ja) act x)) 51 [some (.ref 0), some (.int (nI ja)), some (.int act), some (.int x), some (.int (nI k)), none, none] [] (Gs (acC M0 (M0 46, 0, 0))) 0 0 := by
              intro ekd
              refine r_aload_n dX11_act_51 rfl rfl ?_
              refine r_getR (q := 47) dX11_act_52 (ci := 11) (kf := 14) rfl (Nat.le_of_ble_eq_true rfl) (by decide) (by decide) rfl fl_X11_88 (Or.inl rfl) rfl ?_
              refine r_aload_n dX11_act_55 rfl rfl ?_
              refine r_getR (q := 1) dX11_act_56 (ci := 11) (kf := 0) rfl (Nat.le_of_ble_eq_true rfl) (by decide) (by decide) rfl fl_X11_10 (Or.inl rfl) rfl ?_
              refine r_getR (q := (1 + 3)) dX11_act_59 (ci := 0) (kf := 2) rfl (Nat.le_of_ble_eq_true rfl) (by decide) (by decide) rfl fl_X11_153 (Or.inl rfl) (CoG (Or.inl rfl)).2.2.2.2.2.1 ?_
              refine r_iload dX11_act_62 rfl ?_
              refine r_iald (j := k) dX11_act_64 (CoG (Or.inl rfl)).2.2.1.2.2.1 (Co_la3 (CoG (Or.inl rfl))) rfl (by omega) (by decide) ?_
              rw [show (Gs (acC M0 (M0 46, 0, 0))).2.2.2 (1 + 3) k = nI 2 from (vw_k (S := Gs M0) (b := 1) (by omega)).symm.trans ekd]
              refine r_aaldP (q := 50) (j := 2) dX11_act_65 rfl (Nat.le_of_ble_eq_true rfl) rfl (by decide) (by decide) rfl ?_
              refine r_astore dX11_act_66 (by decide) ?_
              refine r_aload dX11_act_68 rfl ?_
              refine r_iload dX11_act_70 rfl ?_
              refine r_aload_n dX11_act_72 rfl rfl ?_
              refine r_getR (q := 1) dX11_act_73 (ci := 11) (kf := 0) rfl (Nat.le_of_ble_eq_true rfl) (by decide) (by decide) rfl fl_X11_10 (Or.inl rfl) rfl ?_
              refine r_getR (q := (1 + 4)) dX11_act_76 (ci := 0) (kf := 3) rfl (Nat.le_of_ble_eq_true rfl) (by decide) (by decide) rfl fl_X11_156 (Or.inl rfl) (CoG (Or.inl rfl)).2.2.2.2.2.2.1 ?_
              refine r_iload dX11_act_79 rfl ?_
              refine r_iald (j := k) dX11_act_81 (CoG (Or.inl rfl)).2.2.1.2.2.2.1 (Co_la4 (CoG (Or.inl rfl))) rfl (by omega) (by decide) ?_
              rw [show (Gs (acC M0 (M0 46, 0, 0))).2.2.2 (1 + 4) k = o1 from (vw_o (S := Gs M0) (b := 1) (by omega)).symm.trans eow]
              refine r_callU_dV (ci := 2) dX11_act_82 (s_hold_2 g _ _ _ _) mf_X3_hold mi_X3_hold se_X2_X3_X3_hold ml_X11_303 sm_X3_X3_hold rfl rfl rfl (Nat.le_of_ble_eq_true rfl) rfl (by decide) (Nat.le_of_ble_eq_true rfl) ⟨(Nat.le_of_ble_eq_true rfl), (Nat.le_of_ble_eq_true rfl)⟩ ⟨(Nat.le_of_ble_eq_true rfl), (Nat.le_of_ble_eq_true rfl)⟩ ?_
              refine r_iconst (v := 0) dX11_act_85 (by decide) ?_
              refine r_istore dX11_act_86 (by decide) ?_
              skip
              refine r_iload_n dX11_act_88 rfl rfl ?_
              by_cases e_89_0 : act = 0
              · refine r_tableAt (tgt := 116) 0 dX11_act_89 e_89_0 (by decide) (by decide) rfl (by decide) ?_
                refine r_aload dX11_act_116 rfl ?_
                refine r_iload_n dX11_act_118 rfl rfl ?_
                skip
                refine r_callO_dI (ci := 2) dX11_act_119 (s_bw_2 g (A := (M0 46, 0, 0)) (Nat.zero_le _) k o1 rfl rfl _) mf_X2_bows mi_X2_bows se_X2_X3_X2_bows ml_X11_306 sm_X3_X3_bows mi_X3_bows cd_X3_bows ⟨by decide, by decide⟩ rfl rfl rfl (Nat.le_of_ble_eq_true rfl) rfl (by decide) (Nat.le_of_ble_eq_true rfl) ⟨(Nat.le_of_ble_eq_true rfl), (Nat.le_of_ble_eq_true rfl)⟩ ⟨(Nat.le_of_ble_eq_true rfl), (Nat.le_of_ble_eq_true rfl)⟩ ?_
                refine r_istore dX11_act_122 (by decide) ?_
                refine r_goto (tgt := 157) dX11_act_124 (by decide) ?_
                refine r_aload_n dX11_act_157 rfl rfl ?_
                refine r_getR (q := 45) dX11_act_158 (ci := 11) (kf := 13) rfl (Nat.le_of_ble_eq_true rfl) (by decide) (by decide) rfl fl_X11_64 (Or.inl rfl) rfl ?_
                refine r_getI dX11_act_161 (ci := 9) (kf := 2) rfl (Nat.le_of_ble_eq_true rfl) (by decide) (by decide) rfl fl_X11_318 (Or.inl rfl) ?_
                rw [acC_p]
                refine r_if_eq (tgt := 172) dX11_act_164 (by decide) (fun c_164 => ?_) (fun c_164 => ?_)
                · (try dsimp only [Gs_M] at c_164)
                  refine r_iload dX11_act_172 rfl ?_
                  refine r_iret dX11_act_174 rfl (Nat.le_refl _) ?_
                  (try dsimp only [Gs_M])
                  exact ac_end (r := bowK k 2 x (M0 46, 0, 0)) (by decide) hh (by rw [actY, cl_nI (by omega), ek, cl_nI (by omega), ekd, eow, cl_nI (by omega), actK, if_pos e_89_0]) (if_pos c_164).symm
                · (try dsimp only [Gs_M] at c_164)
                  refine r_bipush (v := (-15)) dX11_act_167 (by decide) ?_
                  refine r_goto (tgt := 174) dX11_act_169 (by decide) ?_
                  refine r_iret dX11_act_174 rfl (Nat.le_refl _) ?_
                  (try dsimp only [Gs_M])
                  exact ac_end (r := bowK k 2 x (M0 46, 0, 0)) (by decide) hh (by rw [actY, cl_nI (by omega), ek, cl_nI (by omega), ekd, eow, cl_nI (by omega), actK, if_pos e_89_0]) (if_neg c_164).symm
              by_cases e_89_1 : act = 1
              · refine r_tableAt (tgt := 127) 1 dX11_act_89 e_89_1 (by decide) (by decide) rfl (by decide) ?_
                refine r_aload dX11_act_127 rfl ?_
                refine r_iload_n dX11_act_129 rfl rfl ?_
                skip
                refine r_callU_dI (ci := 2) dX11_act_130 (s_sg_2 g (A := (M0 46, 0, 0)) (Nat.zero_le _) k o1 rfl rfl _) mf_X3_sings mi_X3_sings se_X2_X3_X3_sings ml_X11_309 sm_X3_X3_sings rfl rfl rfl (Nat.le_of_ble_eq_true rfl) rfl (by decide) (Nat.le_of_ble_eq_true rfl) ⟨(Nat.le_of_ble_eq_true rfl), (Nat.le_of_ble_eq_true rfl)⟩ ⟨(Nat.le_of_ble_eq_true rfl), (Nat.le_of_ble_eq_true rfl)⟩ ?_
                refine r_istore dX11_act_133 (by decide) ?_
                refine r_goto (tgt := 157) dX11_act_135 (by decide) ?_
                refine r_aload_n dX11_act_157 rfl rfl ?_
                refine r_getR (q := 45) dX11_act_158 (ci := 11) (kf := 13) rfl (Nat.le_of_ble_eq_true rfl) (by decide) (by decide) rfl fl_X11_64 (Or.inl rfl) rfl ?_
                refine r_getI dX11_act_161 (ci := 9) (kf := 2) rfl (Nat.le_of_ble_eq_true rfl) (by decide) (by decide) rfl fl_X11_318 (Or.inl rfl) ?_
                rw [acC_p]
                refine r_if_eq (tgt := 172) dX11_act_164 (by decide) (fun c_164 => ?_) (fun c_164 => ?_)
                · (try dsimp only [Gs_M] at c_164)
                  refine r_iload dX11_act_172 rfl ?_
                  refine r_iret dX11_act_174 rfl (Nat.le_refl _) ?_
                  (try dsimp only [Gs_M])
                  exact ac_end (r := sngK k 2 o1 2 x (M0 46, 0, 0)) (by decide) hh (by rw [actY, cl_nI (by omega), ek, cl_nI (by omega), ekd, eow, cl_nI (by omega), actK, if_neg e_89_0, if_pos e_89_1]) (if_pos c_164).symm
                · (try dsimp only [Gs_M] at c_164)
                  refine r_bipush (v := (-15)) dX11_act_167 (by decide) ?_
                  refine r_goto (tgt := 174) dX11_act_169 (by decide) ?_
                  refine r_iret dX11_act_174 rfl (Nat.le_refl _) ?_
                  (try dsimp only [Gs_M])
                  exact ac_end (r := sngK k 2 o1 2 x (M0 46, 0, 0)) (by decide) hh (by rw [actY, cl_nI (by omega), ek, cl_nI (by omega), ekd, eow, cl_nI (by omega), actK, if_neg e_89_0, if_pos e_89_1]) (if_neg c_164).symm
              by_cases e_89_2 : act = 2
              · refine r_tableAt (tgt := 138) 2 dX11_act_89 e_89_2 (by decide) (by decide) rfl (by decide) ?_
                refine r_aload dX11_act_138 rfl ?_
                refine r_iload_n dX11_act_140 rfl rfl ?_
                skip
                refine r_callU_dI (ci := 2) dX11_act_141 (s_pr_2 g (A := (M0 46, 0, 0)) (Nat.zero_le _) k o1 rfl rfl rfl _) mf_X3_parts mi_X3_parts se_X2_X3_X3_parts ml_X11_312 sm_X3_X3_parts rfl rfl rfl (Nat.le_of_ble_eq_true rfl) rfl (by decide) (Nat.le_of_ble_eq_true rfl) ⟨(Nat.le_of_ble_eq_true rfl), (Nat.le_of_ble_eq_true rfl)⟩ ⟨(Nat.le_of_ble_eq_true rfl), (Nat.le_of_ble_eq_true rfl)⟩ ?_
                refine r_istore dX11_act_144 (by decide) ?_
                refine r_goto (tgt := 157) dX11_act_146 (by decide) ?_
                refine r_aload_n dX11_act_157 rfl rfl ?_
                refine r_getR (q := 45) dX11_act_158 (ci := 11) (kf := 13) rfl (Nat.le_of_ble_eq_true rfl) (by decide) (by decide) rfl fl_X11_64 (Or.inl rfl) rfl ?_
                refine r_getI dX11_act_161 (ci := 9) (kf := 2) rfl (Nat.le_of_ble_eq_true rfl) (by decide) (by decide) rfl fl_X11_318 (Or.inl rfl) ?_
                rw [acC_p]
                refine r_if_eq (tgt := 172) dX11_act_164 (by decide) (fun c_164 => ?_) (fun c_164 => ?_)
                · (try dsimp only [Gs_M] at c_164)
                  refine r_iload dX11_act_172 rfl ?_
                  refine r_iret dX11_act_174 rfl (Nat.le_refl _) ?_
                  (try dsimp only [Gs_M])
                  exact ac_end (r := prtK k o1 2 x (M0 46, 0, 0)) (by decide) hh (by rw [actY, cl_nI (by omega), ek, cl_nI (by omega), ekd, eow, cl_nI (by omega), actK, if_neg e_89_0, if_neg e_89_1, if_pos e_89_2]) (if_pos c_164).symm
                · (try dsimp only [Gs_M] at c_164)
                  refine r_bipush (v := (-15)) dX11_act_167 (by decide) ?_
                  refine r_goto (tgt := 174) dX11_act_169 (by decide) ?_
                  refine r_iret dX11_act_174 rfl (Nat.le_refl _) ?_
                  (try dsimp only [Gs_M])
                  exact ac_end (r := prtK k o1 2 x (M0 46, 0, 0)) (by decide) hh (by rw [actY, cl_nI (by omega), ek, cl_nI (by omega), ekd, eow, cl_nI (by omega), actK, if_neg e_89_0, if_neg e_89_1, if_pos e_89_2]) (if_neg c_164).symm
              refine r_tableOut (tgt := 149) dX11_act_89 (out_of2 (lo := 0) (n := 2) (by decide) (fun j hl hj => ?_)) (by decide) ?_
              · rcases (by omega : j = 0 ∨ j = 1 ∨ j = 2) with rfl | rfl | rfl
                · exact e_89_0
                · exact e_89_1
                · exact e_89_2
              refine r_aload dX11_act_149 rfl ?_
              refine r_iload_n dX11_act_151 rfl rfl ?_
              skip
              refine r_callO_dI (ci := 2) dX11_act_152 (s_mv_2 g (A := (M0 46, 0, 0)) (Nat.zero_le _) k o1 rfl rfl rfl _) mf_X2_moves mi_X2_moves se_X2_X3_X2_moves ml_X11_315 sm_X3_X3_moves mi_X3_moves cd_X3_moves ⟨by decide, by decide⟩ rfl rfl rfl (Nat.le_of_ble_eq_true rfl) rfl (by decide) (Nat.le_of_ble_eq_true rfl) ⟨(Nat.le_of_ble_eq_true rfl), (Nat.le_of_ble_eq_true rfl)⟩ ⟨(Nat.le_of_ble_eq_true rfl), (Nat.le_of_ble_eq_true rfl)⟩ ?_
              refine r_istore dX11_act_155 (by decide) ?_
              refine r_aload_n dX11_act_157 rfl rfl ?_
              refine r_getR (q := 45) dX11_act_158 (ci := 11) (kf := 13) rfl (Nat.le_of_ble_eq_true rfl) (by decide) (by decide) rfl fl_X11_64 (Or.inl rfl) rfl ?_
              refine r_getI dX11_act_161 (ci := 9) (kf := 2) rfl (Nat.le_of_ble_eq_true rfl) (by decide) (by decide) rfl fl_X11_318 (Or.inl rfl) ?_
              rw [acC_p]
              refine r_if_eq (tgt := 172) dX11_act_164 (by decide) (fun c_164 => ?_) (fun c_164 => ?_)
              · (try dsimp only [Gs_M] at c_164)
                refine r_iload dX11_act_172 rfl ?_
                refine r_iret dX11_act_174 rfl (Nat.le_refl _) ?_
                (try dsimp only [Gs_M])
                exact ac_end (r := movK k 2 o1 2 x (M0 46, 0, 0)) (by decide) hh (by rw [actY, cl_nI (by omega), ek, cl_nI (by omega), ekd, eow, cl_nI (by omega), actK, if_neg e_89_0, if_neg e_89_1, if_neg e_89_2]) (if_pos c_164).symm
              · (try dsimp only [Gs_M] at c_164)
                refine r_bipush (v := (-15)) dX11_act_167 (by decide) ?_
                refine r_goto (tgt := 174) dX11_act_169 (by decide) ?_
                refine r_iret dX11_act_174 rfl (Nat.le_refl _) ?_
                (try dsimp only [Gs_M])
                exact ac_end (r := movK k 2 o1 2 x (M0 46, 0, 0)) (by decide) hh (by rw [actY, cl_nI (by omega), ek, cl_nI (by omega), ekd, eow, cl_nI (by omega), actK, if_neg e_89_0, if_neg e_89_1, if_neg e_89_2]) (if_neg c_164).symm
            have J3 : vw (Gs M0) 1 (16 + 11 * k + 0) = nI 3 → PW g mX11_act (eN g (Gs M0).1 12 0 0 (acP (Gs M0) (vw (Gs M0) 1) ho h1 (nI ja) act x)) 51 [some (.ref 0), some (.int (nI ja)), some (.int act), some (.int x), some (.int (nI k)), none, none] [] (Gs (acC M0 (M0 46, 0, 0))) 0 0 := by
              intro ekd
              refine r_aload_n dX11_act_51 rfl rfl ?_
              refine r_getR (q := 47) dX11_act_52 (ci := 11) (kf := 14) rfl (Nat.le_of_ble_eq_true rfl) (by decide) (by decide) rfl fl_X11_88 (Or.inl rfl) rfl ?_
              refine r_aload_n dX11_act_55 rfl rfl ?_
              refine r_getR (q := 1) dX11_act_56 (ci := 11) (kf := 0) rfl (Nat.le_of_ble_eq_true rfl) (by decide) (by decide) rfl fl_X11_10 (Or.inl rfl) rfl ?_
              refine r_getR (q := (1 + 3)) dX11_act_59 (ci := 0) (kf := 2) rfl (Nat.le_of_ble_eq_true rfl) (by decide) (by decide) rfl fl_X11_153 (Or.inl rfl) (CoG (Or.inl rfl)).2.2.2.2.2.1 ?_
              refine r_iload dX11_act_62 rfl ?_
              refine r_iald (j := k) dX11_act_64 (CoG (Or.inl rfl)).2.2.1.2.2.1 (Co_la3 (CoG (Or.inl rfl))) rfl (by omega) (by decide) ?_
              rw [show (Gs (acC M0 (M0 46, 0, 0))).2.2.2 (1 + 3) k = nI 3 from (vw_k (S := Gs M0) (b := 1) (by omega)).symm.trans ekd]
              refine r_aaldP (q := 51) (j := 3) dX11_act_65 rfl (Nat.le_of_ble_eq_true rfl) rfl (by decide) (by decide) rfl ?_
              refine r_astore dX11_act_66 (by decide) ?_
              refine r_aload dX11_act_68 rfl ?_
              refine r_iload dX11_act_70 rfl ?_
              refine r_aload_n dX11_act_72 rfl rfl ?_
              refine r_getR (q := 1) dX11_act_73 (ci := 11) (kf := 0) rfl (Nat.le_of_ble_eq_true rfl) (by decide) (by decide) rfl fl_X11_10 (Or.inl rfl) rfl ?_
              refine r_getR (q := (1 + 4)) dX11_act_76 (ci := 0) (kf := 3) rfl (Nat.le_of_ble_eq_true rfl) (by decide) (by decide) rfl fl_X11_156 (Or.inl rfl) (CoG (Or.inl rfl)).2.2.2.2.2.2.1 ?_
              refine r_iload dX11_act_79 rfl ?_
              refine r_iald (j := k) dX11_act_81 (CoG (Or.inl rfl)).2.2.1.2.2.2.1 (Co_la4 (CoG (Or.inl rfl))) rfl (by omega) (by decide) ?_
              rw [show (Gs (acC M0 (M0 46, 0, 0))).2.2.2 (1 + 4) k = o1 from (vw_o (S := Gs M0) (b := 1) (by omega)).symm.trans eow]
              refine r_callU_dV (ci := 5) dX11_act_82 (s_hold_3 g _ _ _ _) mf_X3_hold mi_X3_hold se_X5_X3_X3_hold ml_X11_303 sm_X3_X3_hold rfl rfl rfl (Nat.le_of_ble_eq_true rfl) rfl (by decide) (Nat.le_of_ble_eq_true rfl) ⟨(Nat.le_of_ble_eq_true rfl), (Nat.le_of_ble_eq_true rfl)⟩ ⟨(Nat.le_of_ble_eq_true rfl), (Nat.le_of_ble_eq_true rfl)⟩ ?_
              refine r_iconst (v := 0) dX11_act_85 (by decide) ?_
              refine r_istore dX11_act_86 (by decide) ?_
              skip
              refine r_iload_n dX11_act_88 rfl rfl ?_
              by_cases e_89_0 : act = 0
              · refine r_tableAt (tgt := 116) 0 dX11_act_89 e_89_0 (by decide) (by decide) rfl (by decide) ?_
                refine r_aload dX11_act_116 rfl ?_
                refine r_iload_n dX11_act_118 rfl rfl ?_
                skip
                refine r_callO_dI (ci := 5) dX11_act_119 (s_bw_3 g (A := (M0 46, 0, 0)) (Nat.zero_le _) k o1 rfl rfl _) mf_X5_bows mi_X5_bows se_X5_X3_X5_bows ml_X11_306 sm_X3_X3_bows mi_X3_bows cd_X3_bows ⟨by decide, by decide⟩ rfl rfl rfl (Nat.le_of_ble_eq_true rfl) rfl (by decide) (Nat.le_of_ble_eq_true rfl) ⟨(Nat.le_of_ble_eq_true rfl), (Nat.le_of_ble_eq_true rfl)⟩ ⟨(Nat.le_of_ble_eq_true rfl), (Nat.le_of_ble_eq_true rfl)⟩ ?_
                refine r_istore dX11_act_122 (by decide) ?_
                refine r_goto (tgt := 157) dX11_act_124 (by decide) ?_
                refine r_aload_n dX11_act_157 rfl rfl ?_
                refine r_getR (q := 45) dX11_act_158 (ci := 11) (kf := 13) rfl (Nat.le_of_ble_eq_true rfl) (by decide) (by decide) rfl fl_X11_64 (Or.inl rfl) rfl ?_
                refine r_getI dX11_act_161 (ci := 9) (kf := 2) rfl (Nat.le_of_ble_eq_true rfl) (by decide) (by decide) rfl fl_X11_318 (Or.inl rfl) ?_
                rw [acC_p]
                refine r_if_eq (tgt := 172) dX11_act_164 (by decide) (fun c_164 => ?_) (fun c_164 => ?_)
                · (try dsimp only [Gs_M] at c_164)
                  refine r_iload dX11_act_172 rfl ?_
                  refine r_iret dX11_act_174 rfl (Nat.le_refl _) ?_
                  (try dsimp only [Gs_M])
                  exact ac_end (r := bowK k 3 x (M0 46, 0, 0)) (by decide) hh (by rw [actY, cl_nI (by omega), ek, cl_nI (by omega), ekd, eow, cl_nI (by omega), actK, if_pos e_89_0]) (if_pos c_164).symm
                · (try dsimp only [Gs_M] at c_164)
                  refine r_bipush (v := (-15)) dX11_act_167 (by decide) ?_
                  refine r_goto (tgt := 174) dX11_act_169 (by decide) ?_
                  refine r_iret dX11_act_174 rfl (Nat.le_refl _) ?_
                  (try dsimp only [Gs_M])
                  exact ac_end (r := bowK k 3 x (M0 46, 0, 0)) (by decide) hh (by rw [actY, cl_nI (by omega), ek, cl_nI (by omega), ekd, eow, cl_nI (by omega), actK, if_pos e_89_0]) (if_neg c_164).symm
              by_cases e_89_1 : act = 1
              · refine r_tableAt (tgt := 127) 1 dX11_act_89 e_89_1 (by decide) (by decide) rfl (by decide) ?_
                refine r_aload dX11_act_127 rfl ?_
                refine r_iload_n dX11_act_129 rfl rfl ?_
                skip
                refine r_callO_dI (ci := 5) dX11_act_130 (s_sg_3 g (A := (M0 46, 0, 0)) (Nat.zero_le _) k o1 rfl rfl _) mf_X1_sings mi_X1_sings se_X5_X3_X1_sings ml_X11_309 sm_X3_X3_sings mi_X3_sings cd_X3_sings ⟨by decide, by decide⟩ rfl rfl rfl (Nat.le_of_ble_eq_true rfl) rfl (by decide) (Nat.le_of_ble_eq_true rfl) ⟨(Nat.le_of_ble_eq_true rfl), (Nat.le_of_ble_eq_true rfl)⟩ ⟨(Nat.le_of_ble_eq_true rfl), (Nat.le_of_ble_eq_true rfl)⟩ ?_
                refine r_istore dX11_act_133 (by decide) ?_
                refine r_goto (tgt := 157) dX11_act_135 (by decide) ?_
                refine r_aload_n dX11_act_157 rfl rfl ?_
                refine r_getR (q := 45) dX11_act_158 (ci := 11) (kf := 13) rfl (Nat.le_of_ble_eq_true rfl) (by decide) (by decide) rfl fl_X11_64 (Or.inl rfl) rfl ?_
                refine r_getI dX11_act_161 (ci := 9) (kf := 2) rfl (Nat.le_of_ble_eq_true rfl) (by decide) (by decide) rfl fl_X11_318 (Or.inl rfl) ?_
                rw [acC_p]
                refine r_if_eq (tgt := 172) dX11_act_164 (by decide) (fun c_164 => ?_) (fun c_164 => ?_)
                · (try dsimp only [Gs_M] at c_164)
                  refine r_iload dX11_act_172 rfl ?_
                  refine r_iret dX11_act_174 rfl (Nat.le_refl _) ?_
                  (try dsimp only [Gs_M])
                  exact ac_end (r := sngK k 3 o1 3 x (M0 46, 0, 0)) (by decide) hh (by rw [actY, cl_nI (by omega), ek, cl_nI (by omega), ekd, eow, cl_nI (by omega), actK, if_neg e_89_0, if_pos e_89_1]) (if_pos c_164).symm
                · (try dsimp only [Gs_M] at c_164)
                  refine r_bipush (v := (-15)) dX11_act_167 (by decide) ?_
                  refine r_goto (tgt := 174) dX11_act_169 (by decide) ?_
                  refine r_iret dX11_act_174 rfl (Nat.le_refl _) ?_
                  (try dsimp only [Gs_M])
                  exact ac_end (r := sngK k 3 o1 3 x (M0 46, 0, 0)) (by decide) hh (by rw [actY, cl_nI (by omega), ek, cl_nI (by omega), ekd, eow, cl_nI (by omega), actK, if_neg e_89_0, if_pos e_89_1]) (if_neg c_164).symm
              by_cases e_89_2 : act = 2
              · refine r_tableAt (tgt := 138) 2 dX11_act_89 e_89_2 (by decide) (by decide) rfl (by decide) ?_
                refine r_aload dX11_act_138 rfl ?_
                refine r_iload_n dX11_act_140 rfl rfl ?_
                skip
                refine r_callO_dI (ci := 5) dX11_act_141 (s_pr_3 g (A := (M0 46, 0, 0)) (Nat.zero_le _) k o1 rfl rfl rfl _) mf_X5_parts mi_X5_parts se_X5_X3_X5_parts ml_X11_312 sm_X3_X3_parts mi_X3_parts cd_X3_parts ⟨by decide, by decide⟩ rfl rfl rfl (Nat.le_of_ble_eq_true rfl) rfl (by decide) (Nat.le_of_ble_eq_true rfl) ⟨(Nat.le_of_ble_eq_true rfl), (Nat.le_of_ble_eq_true rfl)⟩ ⟨(Nat.le_of_ble_eq_true rfl), (Nat.le_of_ble_eq_true rfl)⟩ ?_
                refine r_istore dX11_act_144 (by decide) ?_
                refine r_goto (tgt := 157) dX11_act_146 (by decide) ?_
                refine r_aload_n dX11_act_157 rfl rfl ?_
                refine r_getR (q := 45) dX11_act_158 (ci := 11) (kf := 13) rfl (Nat.le_of_ble_eq_true rfl) (by decide) (by decide) rfl fl_X11_64 (Or.inl rfl) rfl ?_
                refine r_getI dX11_act_161 (ci := 9) (kf := 2) rfl (Nat.le_of_ble_eq_true rfl) (by decide) (by decide) rfl fl_X11_318 (Or.inl rfl) ?_
                rw [acC_p]
                refine r_if_eq (tgt := 172) dX11_act_164 (by decide) (fun c_164 => ?_) (fun c_164 => ?_)
                · (try dsimp only [Gs_M] at c_164)
                  refine r_iload dX11_act_172 rfl ?_
                  refine r_iret dX11_act_174 rfl (Nat.le_refl _) ?_
                  (try dsimp only [Gs_M])
                  exact ac_end (r := prtK k o1 3 x (M0 46, 0, 0)) (by decide) hh (by rw [actY, cl_nI (by omega), ek, cl_nI (by omega), ekd, eow, cl_nI (by omega), actK, if_neg e_89_0, if_neg e_89_1, if_pos e_89_2]) (if_pos c_164).symm
                · (try dsimp only [Gs_M] at c_164)
                  refine r_bipush (v := (-15)) dX11_act_167 (by decide) ?_
                  refine r_goto (tgt := 174) dX11_act_169 (by decide) ?_
                  refine r_iret dX11_act_174 rfl (Nat.le_refl _) ?_
                  (try dsimp only [Gs_M])
                  exact ac_end (r := prtK k o1 3 x (M0 46, 0, 0)) (by decide) hh (by rw [actY, cl_nI (by omega), ek, cl_nI (by omega), ekd, eow, cl_nI (by omega), actK, if_neg e_89_0, if_neg e_89_1, if_pos e_89_2]) (if_neg c_164).symm
              refine r_tableOut (tgt := 149) dX11_act_89 (out_of2 (lo := 0) (n := 2) (by decide) (fun j hl hj => ?_)) (by decide) ?_
              · rcases (by omega : j = 0 ∨ j = 1 ∨ j = 2) with rfl | rfl | rfl
                · exact e_89_0
                · exact e_89_1
                · exact e_89_2
              refine r_aload dX11_act_149 rfl ?_
              refine r_iload_n dX11_act_151 rfl rfl ?_
              skip
              refine r_callU_dI (ci := 5) dX11_act_152 (s_mv_3 g (A := (M0 46, 0, 0)) (Nat.zero_le _) k o1 rfl rfl rfl _) mf_X3_moves mi_X3_moves se_X5_X3_X3_moves ml_X11_315 sm_X3_X3_moves rfl rfl rfl (Nat.le_of_ble_eq_true rfl) rfl (by decide) (Nat.le_of_ble_eq_true rfl) ⟨(Nat.le_of_ble_eq_true rfl), (Nat.le_of_ble_eq_true rfl)⟩ ⟨(Nat.le_of_ble_eq_true rfl), (Nat.le_of_ble_eq_true rfl)⟩ ?_
              refine r_istore dX11_act_155 (by decide) ?_
              refine r_aload_n dX11_act_157 rfl rfl ?_
              refine r_getR (q := 45) dX11_act_158 (ci := 11) (kf := 13) rfl (Nat.le_of_ble_eq_true rfl) (by decide) (by decide) rfl fl_X11_64 (Or.inl rfl) rfl ?_
              refine r_getI dX11_act_161 (ci := 9) (kf := 2) rfl (Nat.le_of_ble_eq_true rfl) (by decide) (by decide) rfl fl_X11_318 (Or.inl rfl) ?_
              rw [acC_p]
              refine r_if_eq (tgt := 172) dX11_act_164 (by decide) (fun c_164 => ?_) (fun c_164 => ?_)
              · (try dsimp only [Gs_M] at c_164)
                refine r_iload dX11_act_172 rfl ?_
                refine r_iret dX11_act_174 rfl (Nat.le_refl _) ?_
                (try dsimp only [Gs_M])
                exact ac_end (r := movK k 3 o1 3 x (M0 46, 0, 0)) (by decide) hh (by rw [actY, cl_nI (by omega), ek, cl_nI (by omega), ekd, eow, cl_nI (by omega), actK, if_neg e_89_0, if_neg e_89_1, if_neg e_89_2]) (if_pos c_164).symm
              · (try dsimp only [Gs_M] at c_164)
                refine r_bipush (v := (-15)) dX11_act_167 (by decide) ?_
                refine r_goto (tgt := 174) dX11_act_169 (by decide) ?_
                refine r_iret dX11_act_174 rfl (Nat.le_refl _) ?_
                (try dsimp only [Gs_M])
                exact ac_end (r := movK k 3 o1 3 x (M0 46, 0, 0)) (by decide) hh (by rw [actY, cl_nI (by omega), ek, cl_nI (by omega), ekd, eow, cl_nI (by omega), actK, if_neg e_89_0, if_neg e_89_1, if_neg e_89_2]) (if_neg c_164).symm
            have J4 : vw (Gs M0) 1 (16 + 11 * k + 0) = nI 4 → PW g mX11_act (eN g (Gs M0).1 12 0 0 (acP (Gs M0) (vw (Gs M0) 1) ho h1 (nI ja) act x)) 51 [some (.ref 0), some (.int (nI ja)), some (.int act), some (.int x), some (.int (nI k)), none, none] [] (Gs (acC M0 (M0 46, 0, 0))) 0 0 := by
              intro ekd
              refine r_aload_n dX11_act_51 rfl rfl ?_
              refine r_getR (q := 47) dX11_act_52 (ci := 11) (kf := 14) rfl (Nat.le_of_ble_eq_true rfl) (by decide) (by decide) rfl fl_X11_88 (Or.inl rfl) rfl ?_
              refine r_aload_n dX11_act_55 rfl rfl ?_
              refine r_getR (q := 1) dX11_act_56 (ci := 11) (kf := 0) rfl (Nat.le_of_ble_eq_true rfl) (by decide) (by decide) rfl fl_X11_10 (Or.inl rfl) rfl ?_
              refine r_getR (q := (1 + 3)) dX11_act_59 (ci := 0) (kf := 2) rfl (Nat.le_of_ble_eq_true rfl) (by decide) (by decide) rfl fl_X11_153 (Or.inl rfl) (CoG (Or.inl rfl)).2.2.2.2.2.1 ?_
              refine r_iload dX11_act_62 rfl ?_
              refine r_iald (j := k) dX11_act_64 (CoG (Or.inl rfl)).2.2.1.2.2.1 (Co_la3 (CoG (Or.inl rfl))) rfl (by omega) (by decide) ?_
              rw [show (Gs (acC M0 (M0 46, 0, 0))).2.2.2 (1 + 3) k = nI 4 from (vw_k (S := Gs M0) (b := 1) (by omega)).symm.trans ekd]
              refine r_aaldP (q := 52) (j := 4) dX11_act_65 rfl (Nat.le_of_ble_eq_true rfl) rfl (by decide) (by decide) rfl ?_
              refine r_astore dX11_act_66 (by decide) ?_
              refine r_aload dX11_act_68 rfl ?_
              refine r_iload dX11_act_70 rfl ?_
              refine r_aload_n dX11_act_72 rfl rfl ?_
              refine r_getR (q := 1) dX11_act_73 (ci := 11) (kf := 0) rfl (Nat.le_of_ble_eq_true rfl) (by decide) (by decide) rfl fl_X11_10 (Or.inl rfl) rfl ?_
              refine r_getR (q := (1 + 4)) dX11_act_76 (ci := 0) (kf := 3) rfl (Nat.le_of_ble_eq_true rfl) (by decide) (by decide) rfl fl_X11_156 (Or.inl rfl) (CoG (Or.inl rfl)).2.2.2.2.2.2.1 ?_
              refine r_iload dX11_act_79 rfl ?_
              refine r_iald (j := k) dX11_act_81 (CoG (Or.inl rfl)).2.2.1.2.2.2.1 (Co_la4 (CoG (Or.inl rfl))) rfl (by omega) (by decide) ?_
              rw [show (Gs (acC M0 (M0 46, 0, 0))).2.2.2 (1 + 4) k = o1 from (vw_o (S := Gs M0) (b := 1) (by omega)).symm.trans eow]
              refine r_callU_dV (ci := 4) dX11_act_82 (s_hold_4 g _ _ _ _) mf_X3_hold mi_X3_hold se_X4_X3_X3_hold ml_X11_303 sm_X3_X3_hold rfl rfl rfl (Nat.le_of_ble_eq_true rfl) rfl (by decide) (Nat.le_of_ble_eq_true rfl) ⟨(Nat.le_of_ble_eq_true rfl), (Nat.le_of_ble_eq_true rfl)⟩ ⟨(Nat.le_of_ble_eq_true rfl), (Nat.le_of_ble_eq_true rfl)⟩ ?_
              refine r_iconst (v := 0) dX11_act_85 (by decide) ?_
              refine r_istore dX11_act_86 (by decide) ?_
              skip
              refine r_iload_n dX11_act_88 rfl rfl ?_
              by_cases e_89_0 : act = 0
              · refine r_tableAt (tgt := 116) 0 dX11_act_89 e_89_0 (by decide) (by decide) rfl (by decide) ?_
                refine r_aload dX11_act_116 rfl ?_
                refine r_iload_n dX11_act_118 rfl rfl ?_
                skip
                refine r_callO_dI (ci := 4) dX11_act_119 (s_bw_4 g (A := (M0 46, 0, 0)) (Nat.zero_le _) k o1 rfl rfl _) mf_X4_bows mi_X4_bows se_X4_X3_X4_bows ml_X11_306 sm_X3_X3_bows mi_X3_bows cd_X3_bows ⟨by decide, by decide⟩ rfl rfl rfl (Nat.le_of_ble_eq_true rfl) rfl (by decide) (Nat.le_of_ble_eq_true rfl) ⟨(Nat.le_of_ble_eq_true rfl), (Nat.le_of_ble_eq_true rfl)⟩ ⟨(Nat.le_of_ble_eq_true rfl), (Nat.le_of_ble_eq_true rfl)⟩ ?_
                refine r_istore dX11_act_122 (by decide) ?_
                refine r_goto (tgt := 157) dX11_act_124 (by decide) ?_
                refine r_aload_n dX11_act_157 rfl rfl ?_
                refine r_getR (q := 45) dX11_act_158 (ci := 11) (kf := 13) rfl (Nat.le_of_ble_eq_true rfl) (by decide) (by decide) rfl fl_X11_64 (Or.inl rfl) rfl ?_
                refine r_getI dX11_act_161 (ci := 9) (kf := 2) rfl (Nat.le_of_ble_eq_true rfl) (by decide) (by decide) rfl fl_X11_318 (Or.inl rfl) ?_
                rw [acC_p]
                refine r_if_eq (tgt := 172) dX11_act_164 (by decide) (fun c_164 => ?_) (fun c_164 => ?_)
                · (try dsimp only [Gs_M] at c_164)
                  refine r_iload dX11_act_172 rfl ?_
                  refine r_iret dX11_act_174 rfl (Nat.le_refl _) ?_
                  (try dsimp only [Gs_M])
                  exact ac_end (r := bowK k 4 x (M0 46, 0, 0)) (by decide) hh (by rw [actY, cl_nI (by omega), ek, cl_nI (by omega), ekd, eow, cl_nI (by omega), actK, if_pos e_89_0]) (if_pos c_164).symm
                · (try dsimp only [Gs_M] at c_164)
                  refine r_bipush (v := (-15)) dX11_act_167 (by decide) ?_
                  refine r_goto (tgt := 174) dX11_act_169 (by decide) ?_
                  refine r_iret dX11_act_174 rfl (Nat.le_refl _) ?_
                  (try dsimp only [Gs_M])
                  exact ac_end (r := bowK k 4 x (M0 46, 0, 0)) (by decide) hh (by rw [actY, cl_nI (by omega), ek, cl_nI (by omega), ekd, eow, cl_nI (by omega), actK, if_pos e_89_0]) (if_neg c_164).symm
              by_cases e_89_1 : act = 1
              · refine r_tableAt (tgt := 127) 1 dX11_act_89 e_89_1 (by decide) (by decide) rfl (by decide) ?_
                refine r_aload dX11_act_127 rfl ?_
                refine r_iload_n dX11_act_129 rfl rfl ?_
                skip
                refine r_callO_dI (ci := 4) dX11_act_130 (s_sg_4 g (A := (M0 46, 0, 0)) (Nat.zero_le _) k o1 rfl rfl _) mf_X4_sings mi_X4_sings se_X4_X3_X4_sings ml_X11_309 sm_X3_X3_sings mi_X3_sings cd_X3_sings ⟨by decide, by decide⟩ rfl rfl rfl (Nat.le_of_ble_eq_true rfl) rfl (by decide) (Nat.le_of_ble_eq_true rfl) ⟨(Nat.le_of_ble_eq_true rfl), (Nat.le_of_ble_eq_true rfl)⟩ ⟨(Nat.le_of_ble_eq_true rfl), (Nat.le_of_ble_eq_true rfl)⟩ ?_
                refine r_istore dX11_act_133 (by decide) ?_
                refine r_goto (tgt := 157) dX11_act_135 (by decide) ?_
                refine r_aload_n dX11_act_157 rfl rfl ?_
                refine r_getR (q := 45) dX11_act_158 (ci := 11) (kf := 13) rfl (Nat.le_of_ble_eq_true rfl) (by decide) (by decide) rfl fl_X11_64 (Or.inl rfl) rfl ?_
                refine r_getI dX11_act_161 (ci := 9) (kf := 2) rfl (Nat.le_of_ble_eq_true rfl) (by decide) (by decide) rfl fl_X11_318 (Or.inl rfl) ?_
                rw [acC_p]
                refine r_if_eq (tgt := 172) dX11_act_164 (by decide) (fun c_164 => ?_) (fun c_164 => ?_)
                · (try dsimp only [Gs_M] at c_164)
                  refine r_iload dX11_act_172 rfl ?_
                  refine r_iret dX11_act_174 rfl (Nat.le_refl _) ?_
                  (try dsimp only [Gs_M])
                  exact ac_end (r := sngK k 4 o1 4 x (M0 46, 0, 0)) (by decide) hh (by rw [actY, cl_nI (by omega), ek, cl_nI (by omega), ekd, eow, cl_nI (by omega), actK, if_neg e_89_0, if_pos e_89_1]) (if_pos c_164).symm
                · (try dsimp only [Gs_M] at c_164)
                  refine r_bipush (v := (-15)) dX11_act_167 (by decide) ?_
                  refine r_goto (tgt := 174) dX11_act_169 (by decide) ?_
                  refine r_iret dX11_act_174 rfl (Nat.le_refl _) ?_
                  (try dsimp only [Gs_M])
                  exact ac_end (r := sngK k 4 o1 4 x (M0 46, 0, 0)) (by decide) hh (by rw [actY, cl_nI (by omega), ek, cl_nI (by omega), ekd, eow, cl_nI (by omega), actK, if_neg e_89_0, if_pos e_89_1]) (if_neg c_164).symm
              by_cases e_89_2 : act = 2
              · refine r_tableAt (tgt := 138) 2 dX11_act_89 e_89_2 (by decide) (by decide) rfl (by decide) ?_
                refine r_aload dX11_act_138 rfl ?_
                refine r_iload_n dX11_act_140 rfl rfl ?_
                skip
                refine r_callU_dI (ci := 4) dX11_act_141 (s_pr_4 g (A := (M0 46, 0, 0)) (Nat.zero_le _) k o1 rfl rfl rfl _) mf_X3_parts mi_X3_parts se_X4_X3_X3_parts ml_X11_312 sm_X3_X3_parts rfl rfl rfl (Nat.le_of_ble_eq_true rfl) rfl (by decide) (Nat.le_of_ble_eq_true rfl) ⟨(Nat.le_of_ble_eq_true rfl), (Nat.le_of_ble_eq_true rfl)⟩ ⟨(Nat.le_of_ble_eq_true rfl), (Nat.le_of_ble_eq_true rfl)⟩ ?_
                refine r_istore dX11_act_144 (by decide) ?_
                refine r_goto (tgt := 157) dX11_act_146 (by decide) ?_
                refine r_aload_n dX11_act_157 rfl rfl ?_
                refine r_getR (q := 45) dX11_act_158 (ci := 11) (kf := 13) rfl (Nat.le_of_ble_eq_true rfl) (by decide) (by decide) rfl fl_X11_64 (Or.inl rfl) rfl ?_
                refine r_getI dX11_act_161 (ci := 9) (kf := 2) rfl (Nat.le_of_ble_eq_true rfl) (by decide) (by decide) rfl fl_X11_318 (Or.inl rfl) ?_
                rw [acC_p]
                refine r_if_eq (tgt := 172) dX11_act_164 (by decide) (fun c_164 => ?_) (fun c_164 => ?_)
                · (try dsimp only [Gs_M] at c_164)
                  refine r_iload dX11_act_172 rfl ?_
                  refine r_iret dX11_act_174 rfl (Nat.le_refl _) ?_
                  (try dsimp only [Gs_M])
                  exact ac_end (r := prtK k o1 4 x (M0 46, 0, 0)) (by decide) hh (by rw [actY, cl_nI (by omega), ek, cl_nI (by omega), ekd, eow, cl_nI (by omega), actK, if_neg e_89_0, if_neg e_89_1, if_pos e_89_2]) (if_pos c_164).symm
                · (try dsimp only [Gs_M] at c_164)
                  refine r_bipush (v := (-15)) dX11_act_167 (by decide) ?_
                  refine r_goto (tgt := 174) dX11_act_169 (by decide) ?_
                  refine r_iret dX11_act_174 rfl (Nat.le_refl _) ?_
                  (try dsimp only [Gs_M])
                  exact ac_end (r := prtK k o1 4 x (M0 46, 0, 0)) (by decide) hh (by rw [actY, cl_nI (by omega), ek, cl_nI (by omega), ekd, eow, cl_nI (by omega), actK, if_neg e_89_0, if_neg e_89_1, if_pos e_89_2]) (if_neg c_164).symm
              refine r_tableOut (tgt := 149) dX11_act_89 (out_of2 (lo := 0) (n := 2) (by decide) (fun j hl hj => ?_)) (by decide) ?_
              · rcases (by omega : j = 0 ∨ j = 1 ∨ j = 2) with rfl | rfl | rfl
                · exact e_89_0
                · exact e_89_1
                · exact e_89_2
              refine r_aload dX11_act_149 rfl ?_
              refine r_iload_n dX11_act_151 rfl rfl ?_
              skip
              refine r_callO_dI (ci := 4) dX11_act_152 (s_mv_4 g (A := (M0 46, 0, 0)) (Nat.zero_le _) k o1 rfl rfl rfl _) mf_X2_moves mi_X2_moves se_X4_X3_X2_moves ml_X11_315 sm_X3_X3_moves mi_X3_moves cd_X3_moves ⟨by decide, by decide⟩ rfl rfl rfl (Nat.le_of_ble_eq_true rfl) rfl (by decide) (Nat.le_of_ble_eq_true rfl) ⟨(Nat.le_of_ble_eq_true rfl), (Nat.le_of_ble_eq_true rfl)⟩ ⟨(Nat.le_of_ble_eq_true rfl), (Nat.le_of_ble_eq_true rfl)⟩ ?_
              refine r_istore dX11_act_155 (by decide) ?_
              refine r_aload_n dX11_act_157 rfl rfl ?_
              refine r_getR (q := 45) dX11_act_158 (ci := 11) (kf := 13) rfl (Nat.le_of_ble_eq_true rfl) (by decide) (by decide) rfl fl_X11_64 (Or.inl rfl) rfl ?_
              refine r_getI dX11_act_161 (ci := 9) (kf := 2) rfl (Nat.le_of_ble_eq_true rfl) (by decide) (by decide) rfl fl_X11_318 (Or.inl rfl) ?_
              rw [acC_p]
              refine r_if_eq (tgt := 172) dX11_act_164 (by decide) (fun c_164 => ?_) (fun c_164 => ?_)
              · (try dsimp only [Gs_M] at c_164)
                refine r_iload dX11_act_172 rfl ?_
                refine r_iret dX11_act_174 rfl (Nat.le_refl _) ?_
                (try dsimp only [Gs_M])
                exact ac_end (r := movK k 4 o1 4 x (M0 46, 0, 0)) (by decide) hh (by rw [actY, cl_nI (by omega), ek, cl_nI (by omega), ekd, eow, cl_nI (by omega), actK, if_neg e_89_0, if_neg e_89_1, if_neg e_89_2]) (if_pos c_164).symm
              · (try dsimp only [Gs_M] at c_164)
                refine r_bipush (v := (-15)) dX11_act_167 (by decide) ?_
                refine r_goto (tgt := 174) dX11_act_169 (by decide) ?_
                refine r_iret dX11_act_174 rfl (Nat.le_refl _) ?_
                (try dsimp only [Gs_M])
                exact ac_end (r := movK k 4 o1 4 x (M0 46, 0, 0)) (by decide) hh (by rw [actY, cl_nI (by omega), ek, cl_nI (by omega), ekd, eow, cl_nI (by omega), actK, if_neg e_89_0, if_neg e_89_1, if_neg e_89_2]) (if_neg c_164).symm
            have J5 : vw (Gs M0) 1 (16 + 11 * k + 0) = nI 5 → PW g mX11_act (eN g (Gs M0).1 12 0 0 (acP (Gs M0) (vw (Gs M0) 1) ho h1 (nI ja) act x)) 51 [some (.ref 0), some (.int (nI ja)), some (.int act), some (.int x), some (.int (nI k)), none, none] [] (Gs (acC M0 (M0 46, 0, 0))) 0 0 := by
              intro ekd
              refine r_aload_n dX11_act_51 rfl rfl ?_
              refine r_getR (q := 47) dX11_act_52 (ci := 11) (kf := 14) rfl (Nat.le_of_ble_eq_true rfl) (by decide) (by decide) rfl fl_X11_88 (Or.inl rfl) rfl ?_
              refine r_aload_n dX11_act_55 rfl rfl ?_
              refine r_getR (q := 1) dX11_act_56 (ci := 11) (kf := 0) rfl (Nat.le_of_ble_eq_true rfl) (by decide) (by decide) rfl fl_X11_10 (Or.inl rfl) rfl ?_
              refine r_getR (q := (1 + 3)) dX11_act_59 (ci := 0) (kf := 2) rfl (Nat.le_of_ble_eq_true rfl) (by decide) (by decide) rfl fl_X11_153 (Or.inl rfl) (CoG (Or.inl rfl)).2.2.2.2.2.1 ?_
              refine r_iload dX11_act_62 rfl ?_
              refine r_iald (j := k) dX11_act_64 (CoG (Or.inl rfl)).2.2.1.2.2.1 (Co_la3 (CoG (Or.inl rfl))) rfl (by omega) (by decide) ?_
              rw [show (Gs (acC M0 (M0 46, 0, 0))).2.2.2 (1 + 3) k = nI 5 from (vw_k (S := Gs M0) (b := 1) (by omega)).symm.trans ekd]
              refine r_aaldP (q := 53) (j := 5) dX11_act_65 rfl (Nat.le_of_ble_eq_true rfl) rfl (by decide) (by decide) rfl ?_
              refine r_astore dX11_act_66 (by decide) ?_
              refine r_aload dX11_act_68 rfl ?_
              refine r_iload dX11_act_70 rfl ?_
              refine r_aload_n dX11_act_72 rfl rfl ?_
              refine r_getR (q := 1) dX11_act_73 (ci := 11) (kf := 0) rfl (Nat.le_of_ble_eq_true rfl) (by decide) (by decide) rfl fl_X11_10 (Or.inl rfl) rfl ?_
              refine r_getR (q := (1 + 4)) dX11_act_76 (ci := 0) (kf := 3) rfl (Nat.le_of_ble_eq_true rfl) (by decide) (by decide) rfl fl_X11_156 (Or.inl rfl) (CoG (Or.inl rfl)).2.2.2.2.2.2.1 ?_
              refine r_iload dX11_act_79 rfl ?_
              refine r_iald (j := k) dX11_act_81 (CoG (Or.inl rfl)).2.2.1.2.2.2.1 (Co_la4 (CoG (Or.inl rfl))) rfl (by omega) (by decide) ?_
              rw [show (Gs (acC M0 (M0 46, 0, 0))).2.2.2 (1 + 4) k = o1 from (vw_o (S := Gs M0) (b := 1) (by omega)).symm.trans eow]
              refine r_callU_dV (ci := 7) dX11_act_82 (s_hold_5 g _ _ _ _) mf_X3_hold mi_X3_hold se_X7_X3_X3_hold ml_X11_303 sm_X3_X3_hold rfl rfl rfl (Nat.le_of_ble_eq_true rfl) rfl (by decide) (Nat.le_of_ble_eq_true rfl) ⟨(Nat.le_of_ble_eq_true rfl), (Nat.le_of_ble_eq_true rfl)⟩ ⟨(Nat.le_of_ble_eq_true rfl), (Nat.le_of_ble_eq_true rfl)⟩ ?_
              refine r_iconst (v := 0) dX11_act_85 (by decide) ?_
              refine r_istore dX11_act_86 (by decide) ?_
              skip
              refine r_iload_n dX11_act_88 rfl rfl ?_
              by_cases e_89_0 : act = 0
              · refine r_tableAt (tgt := 116) 0 dX11_act_89 e_89_0 (by decide) (by decide) rfl (by decide) ?_
                refine r_aload dX11_act_116 rfl ?_
                refine r_iload_n dX11_act_118 rfl rfl ?_
                skip
                refine r_callU_dI (ci := 7) dX11_act_119 (s_bw_5 g (A := (M0 46, 0, 0)) (Nat.zero_le _) k o1 rfl rfl _) mf_X3_bows mi_X3_bows se_X7_X3_X3_bows ml_X11_306 sm_X3_X3_bows rfl rfl rfl (Nat.le_of_ble_eq_true rfl) rfl (by decide) (Nat.le_of_ble_eq_true rfl) ⟨(Nat.le_of_ble_eq_true rfl), (Nat.le_of_ble_eq_true rfl)⟩ ⟨(Nat.le_of_ble_eq_true rfl), (Nat.le_of_ble_eq_true rfl)⟩ ?_
                refine r_istore dX11_act_122 (by decide) ?_
                refine r_goto (tgt := 157) dX11_act_124 (by decide) ?_
                refine r_aload_n dX11_act_157 rfl rfl ?_
                refine r_getR (q := 45) dX11_act_158 (ci := 11) (kf := 13) rfl (Nat.le_of_ble_eq_true rfl) (by decide) (by decide) rfl fl_X11_64 (Or.inl rfl) rfl ?_
                refine r_getI dX11_act_161 (ci := 9) (kf := 2) rfl (Nat.le_of_ble_eq_true rfl) (by decide) (by decide) rfl fl_X11_318 (Or.inl rfl) ?_
                rw [acC_p]
                refine r_if_eq (tgt := 172) dX11_act_164 (by decide) (fun c_164 => ?_) (fun c_164 => ?_)
                · (try dsimp only [Gs_M] at c_164)
                  refine r_iload dX11_act_172 rfl ?_
                  refine r_iret dX11_act_174 rfl (Nat.le_refl _) ?_
                  (try dsimp only [Gs_M])
                  exact ac_end (r := bowK k 5 x (M0 46, 0, 0)) (by decide) hh (by rw [actY, cl_nI (by omega), ek, cl_nI (by omega), ekd, eow, cl_nI (by omega), actK, if_pos e_89_0]) (if_pos c_164).symm
                · (try dsimp only [Gs_M] at c_164)
                  refine r_bipush (v := (-15)) dX11_act_167 (by decide) ?_
                  refine r_goto (tgt := 174) dX11_act_169 (by decide) ?_
                  refine r_iret dX11_act_174 rfl (Nat.le_refl _) ?_
                  (try dsimp only [Gs_M])
                  exact ac_end (r := bowK k 5 x (M0 46, 0, 0)) (by decide) hh (by rw [actY, cl_nI (by omega), ek, cl_nI (by omega), ekd, eow, cl_nI (by omega), actK, if_pos e_89_0]) (if_neg c_164).symm
              by_cases e_89_1 : act = 1
              · refine r_tableAt (tgt := 127) 1 dX11_act_89 e_89_1 (by decide) (by decide) rfl (by decide) ?_
                refine r_aload dX11_act_127 rfl ?_
                refine r_iload_n dX11_act_129 rfl rfl ?_
                skip
                refine r_callU_dI (ci := 7) dX11_act_130 (s_sg_5 g (A := (M0 46, 0, 0)) (Nat.zero_le _) k o1 rfl rfl _) mf_X3_sings mi_X3_sings se_X7_X3_X3_sings ml_X11_309 sm_X3_X3_sings rfl rfl rfl (Nat.le_of_ble_eq_true rfl) rfl (by decide) (Nat.le_of_ble_eq_true rfl) ⟨(Nat.le_of_ble_eq_true rfl), (Nat.le_of_ble_eq_true rfl)⟩ ⟨(Nat.le_of_ble_eq_true rfl), (Nat.le_of_ble_eq_true rfl)⟩ ?_
                refine r_istore dX11_act_133 (by decide) ?_
                refine r_goto (tgt := 157) dX11_act_135 (by decide) ?_
                refine r_aload_n dX11_act_157 rfl rfl ?_
                refine r_getR (q := 45) dX11_act_158 (ci := 11) (kf := 13) rfl (Nat.le_of_ble_eq_true rfl) (by decide) (by decide) rfl fl_X11_64 (Or.inl rfl) rfl ?_
                refine r_getI dX11_act_161 (ci := 9) (kf := 2) rfl (Nat.le_of_ble_eq_true rfl) (by decide) (by decide) rfl fl_X11_318 (Or.inl rfl) ?_
                rw [acC_p]
                refine r_if_eq (tgt := 172) dX11_act_164 (by decide) (fun c_164 => ?_) (fun c_164 => ?_)
                · (try dsimp only [Gs_M] at c_164)
                  refine r_iload dX11_act_172 rfl ?_
                  refine r_iret dX11_act_174 rfl (Nat.le_refl _) ?_
                  (try dsimp only [Gs_M])
                  exact ac_end (r := sngK k 5 o1 5 x (M0 46, 0, 0)) (by decide) hh (by rw [actY, cl_nI (by omega), ek, cl_nI (by omega), ekd, eow, cl_nI (by omega), actK, if_neg e_89_0, if_pos e_89_1]) (if_pos c_164).symm
                · (try dsimp only [Gs_M] at c_164)
                  refine r_bipush (v := (-15)) dX11_act_167 (by decide) ?_
                  refine r_goto (tgt := 174) dX11_act_169 (by decide) ?_
                  refine r_iret dX11_act_174 rfl (Nat.le_refl _) ?_
                  (try dsimp only [Gs_M])
                  exact ac_end (r := sngK k 5 o1 5 x (M0 46, 0, 0)) (by decide) hh (by rw [actY, cl_nI (by omega), ek, cl_nI (by omega), ekd, eow, cl_nI (by omega), actK, if_neg e_89_0, if_pos e_89_1]) (if_neg c_164).symm
              by_cases e_89_2 : act = 2
              · refine r_tableAt (tgt := 138) 2 dX11_act_89 e_89_2 (by decide) (by decide) rfl (by decide) ?_
                refine r_aload dX11_act_138 rfl ?_
                refine r_iload_n dX11_act_140 rfl rfl ?_
                skip
                refine r_callO_dI (ci := 7) dX11_act_141 (s_pr_5 g (A := (M0 46, 0, 0)) (Nat.zero_le _) k o1 rfl rfl rfl _) mf_X7_parts mi_X7_parts se_X7_X3_X7_parts ml_X11_312 sm_X3_X3_parts mi_X3_parts cd_X3_parts ⟨by decide, by decide⟩ rfl rfl rfl (Nat.le_of_ble_eq_true rfl) rfl (by decide) (Nat.le_of_ble_eq_true rfl) ⟨(Nat.le_of_ble_eq_true rfl), (Nat.le_of_ble_eq_true rfl)⟩ ⟨(Nat.le_of_ble_eq_true rfl), (Nat.le_of_ble_eq_true rfl)⟩ ?_
                refine r_istore dX11_act_144 (by decide) ?_
                refine r_goto (tgt := 157) dX11_act_146 (by decide) ?_
                refine r_aload_n dX11_act_157 rfl rfl ?_
                refine r_getR (q := 45) dX11_act_158 (ci := 11) (kf := 13) rfl (Nat.le_of_ble_eq_true rfl) (by decide) (by decide) rfl fl_X11_64 (Or.inl rfl) rfl ?_
                refine r_getI dX11_act_161 (ci := 9) (kf := 2) rfl (Nat.le_of_ble_eq_true rfl) (by decide) (by decide) rfl fl_X11_318 (Or.inl rfl) ?_
                rw [acC_p]
                refine r_if_eq (tgt := 172) dX11_act_164 (by decide) (fun c_164 => ?_) (fun c_164 => ?_)
                · (try dsimp only [Gs_M] at c_164)
                  refine r_iload dX11_act_172 rfl ?_
                  refine r_iret dX11_act_174 rfl (Nat.le_refl _) ?_
                  (try dsimp only [Gs_M])
                  exact ac_end (r := prtK k o1 5 x (M0 46, 0, 0)) (by decide) hh (by rw [actY, cl_nI (by omega), ek, cl_nI (by omega), ekd, eow, cl_nI (by omega), actK, if_neg e_89_0, if_neg e_89_1, if_pos e_89_2]) (if_pos c_164).symm
                · (try dsimp only [Gs_M] at c_164)
                  refine r_bipush (v := (-15)) dX11_act_167 (by decide) ?_
                  refine r_goto (tgt := 174) dX11_act_169 (by decide) ?_
                  refine r_iret dX11_act_174 rfl (Nat.le_refl _) ?_
                  (try dsimp only [Gs_M])
                  exact ac_end (r := prtK k o1 5 x (M0 46, 0, 0)) (by decide) hh (by rw [actY, cl_nI (by omega), ek, cl_nI (by omega), ekd, eow, cl_nI (by omega), actK, if_neg e_89_0, if_neg e_89_1, if_pos e_89_2]) (if_neg c_164).symm
              refine r_tableOut (tgt := 149) dX11_act_89 (out_of2 (lo := 0) (n := 2) (by decide) (fun j hl hj => ?_)) (by decide) ?_
              · rcases (by omega : j = 0 ∨ j = 1 ∨ j = 2) with rfl | rfl | rfl
                · exact e_89_0
                · exact e_89_1
                · exact e_89_2
              refine r_aload dX11_act_149 rfl ?_
              refine r_iload_n dX11_act_151 rfl rfl ?_
              skip
              refine r_callO_dI (ci := 7) dX11_act_152 (s_mv_5 g (A := (M0 46, 0, 0)) (Nat.zero_le _) k o1 rfl rfl rfl _) mf_X7_moves mi_X7_moves se_X7_X3_X7_moves ml_X11_315 sm_X3_X3_moves mi_X3_moves cd_X3_moves ⟨by decide, by decide⟩ rfl rfl rfl (Nat.le_of_ble_eq_true rfl) rfl (by decide) (Nat.le_of_ble_eq_true rfl) ⟨(Nat.le_of_ble_eq_true rfl), (Nat.le_of_ble_eq_true rfl)⟩ ⟨(Nat.le_of_ble_eq_true rfl), (Nat.le_of_ble_eq_true rfl)⟩ ?_
              refine r_istore dX11_act_155 (by decide) ?_
              refine r_aload_n dX11_act_157 rfl rfl ?_
              refine r_getR (q := 45) dX11_act_158 (ci := 11) (kf := 13) rfl (Nat.le_of_ble_eq_true rfl) (by decide) (by decide) rfl fl_X11_64 (Or.inl rfl) rfl ?_
              refine r_getI dX11_act_161 (ci := 9) (kf := 2) rfl (Nat.le_of_ble_eq_true rfl) (by decide) (by decide) rfl fl_X11_318 (Or.inl rfl) ?_
              rw [acC_p]
              refine r_if_eq (tgt := 172) dX11_act_164 (by decide) (fun c_164 => ?_) (fun c_164 => ?_)
              · (try dsimp only [Gs_M] at c_164)
                refine r_iload dX11_act_172 rfl ?_
                refine r_iret dX11_act_174 rfl (Nat.le_refl _) ?_
                (try dsimp only [Gs_M])
                exact ac_end (r := movK k 5 o1 5 x (M0 46, 0, 0)) (by decide) hh (by rw [actY, cl_nI (by omega), ek, cl_nI (by omega), ekd, eow, cl_nI (by omega), actK, if_neg e_89_0, if_neg e_89_1, if_neg e_89_2]) (if_pos c_164).symm
              · (try dsimp only [Gs_M] at c_164)
                refine r_bipush (v := (-15)) dX11_act_167 (by decide) ?_
                refine r_goto (tgt := 174) dX11_act_169 (by decide) ?_
                refine r_iret dX11_act_174 rfl (Nat.le_refl _) ?_
                (try dsimp only [Gs_M])
                exact ac_end (r := movK k 5 o1 5 x (M0 46, 0, 0)) (by decide) hh (by rw [actY, cl_nI (by omega), ek, cl_nI (by omega), ekd, eow, cl_nI (by omega), actK, if_neg e_89_0, if_neg e_89_1, if_neg e_89_2]) (if_neg c_164).symm
            rcases (by omega : kd = 0 ∨ kd = 1 ∨ kd = 2 ∨ kd = 3 ∨ kd = 4 ∨ kd = 5) with rfl | rfl | rfl | rfl | rfl | rfl
            · exact PW.subL (J0 ekd) (by repeat' first | exact True.intro | refine And.intro rfl ?_)
            · exact PW.subL (J1 ekd) (by repeat' first | exact True.intro | refine And.intro rfl ?_)
            · exact PW.subL (J2 ekd) (by repeat' first | exact True.intro | refine And.intro rfl ?_)
            · exact PW.subL (J3 ekd) (by repeat' first | exact True.intro | refine And.intro rfl ?_)
            · exact PW.subL (J4 ekd) (by repeat' first | exact True.intro | refine And.intro rfl ?_)
            · exact PW.subL (J5 ekd) (by repeat' first | exact True.intro | refine And.intro rfl ?_)
          · (try dsimp only [Gs_M] at c_38)
            refine r_iconst (v := 0) dX11_act_41 (by decide) ?_
            refine r_iret dX11_act_42 rfl (Nat.le_refl _) ?_
            (try dsimp only [Gs_M])
            exact ac_no (fun z => by have y := z.2.2; rw [cl_nI (by omega)] at y; obtain ⟨d, hd, ed, ehr, en⟩ := sf_row (W := vw (Gs M0) 1) hSf c_38; rw [ehr] at y; exact nI_ne0 (by omega) (by omega) y)
