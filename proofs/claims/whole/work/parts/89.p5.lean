theorem plyNew_inv {W : Nat → Int32} {k j : Nat} {kd : Int32} (hI : InvR W) (hk : k < 8) (hj : j < 8) (h6 : W 6 = nI k) : InvR (plyNew W k j kd) := by
  refine ⟨⟨k + 1, by omega, ?_⟩, fun q hq => ?_⟩
  · unfold plyNew
    rw [if_pos rfl, h6, nI_1]
  · unfold plyNew
    rw [if_neg (by omega), if_neg (by omega)]
    by_cases e : 16 + 11 * q + 1 = 16 + 11 * k + 1
    · rw [if_pos e]; exact ⟨j, hj, rfl⟩
    · rw [if_neg e, if_neg (by omega), if_neg (by omega)]; exact hI.2 q hq
theorem tplC_inv {b : Nat → Int32} {n : Nat} {kd : Int32} {W : Nat → Int32} {a : Nat} {f : Int32} (hI : InvR W) (ha : a ≤ n) (h68 : ¬ W 6 = 8) : InvR (tplC b n kd W a f).1 := by
  obtain ⟨h8, hpl⟩ := hI.pl
  have hp8 : plR W < 8 := by
    rcases Nat.lt_or_ge (plR W) 8 with h | h
    · exact h
    · exact absurd (by rw [hpl, show plR W = 8 by omega]; rfl) h68
  obtain ⟨j, hj, ej⟩ := nuV_r (b := b) (n := n) (a := nmA b n a 11) (k := 7) (m := 7) (nmA_le ha) (by decide)
  have i1 : InvR (plyNew W (plR W) (cl (nuV b n (nmA b n a 11) 7)) kd) := by
    rw [ej, cl_nI (by omega)]
    exact plyNew_inv hI hp8 (by omega) hpl
  have i2 : ∀ T : tT, InvR T.1 → InvR (knC b n (plR W) (cl (nuV b n (nmA b n a 11) 7)) T).1 := by
    intro T hT
    by_cases c : nmC b n T.2.1 12 = true
    · rw [knC_y c]
      rw [ej, cl_nI (by omega)]
      exact upd_inv hT (by omega) (fun k hk => by omega)
    · rw [knC_n c]; exact hT
  have i3 : ∀ T : tT, InvR T.1 → InvR (ilC b n (plR W) T).1 := by
    intro T hT
    by_cases c : nmC b n T.2.1 13 = true
    · rw [ilC_y c]
      exact upd_inv hT (by omega) (fun k hk => by omega)
    · rw [ilC_n c]; exact hT
  exact i3 _ (i2 _ i1)
theorem one_cases {b : Nat → Int32} {n : Nat} {W : Nat → Int32} {a : Nat} {f : Int32} : oneC b n W a f = (W, opA b n a, flC f (nI a)) ∨ (∃ k, k < 6 ∧ ¬ W 6 = 8 ∧ opC b n a = nI k ∧ oneC b n W a f = tplC b n (nI k) W (opA b n a) f) ∨ (opC b n a = nI 10 ∧ oneC b n W a f = on1 b n W (opA b n a) f) ∨ (∃ i, i < 4 ∧ opC b n a = nI (6 + i) ∧ oneC b n W a f = on2 b n i W (opA b n a) f) := by
  rcases opC_or (b := b) (n := n) (a := a) 11 (Nat.le_refl _) with e | ⟨k, hk, e⟩
  · exact Or.inl (one_0 e)
  · by_cases c : k < 6
    · by_cases c8 : W 6 = 8
      · exact Or.inl (one_8 hk e c c8)
      · exact Or.inr (Or.inl ⟨k, c, c8, e, one_k hk e c c8⟩)
    · by_cases c10 : k = 10
      · subst c10
        exact Or.inr (Or.inr (Or.inl ⟨e, one_10 e⟩))
      · exact Or.inr (Or.inr (Or.inr ⟨k - 6, by omega, by rw [show 6 + (k - 6) = k by omega]; exact e, one_l hk e (by omega) c10⟩))
theorem oneC_inv {b : Nat → Int32} {n : Nat} {W : Nat → Int32} {a : Nat} {f : Int32} (hI : InvR W) (ha : a ≤ n) : InvR (oneC b n W a f).1 := by
  rcases one_cases (b := b) (n := n) (W := W) (a := a) (f := f) with e | ⟨k, hk, h8, _, e⟩ | ⟨_, e⟩ | ⟨i, hi, _, e⟩ <;> rw [e]
  · exact hI
  · exact tplC_inv hI (opA_le ha) h8
  · obtain ⟨j, hj, ej⟩ := nuV_r (b := b) (n := n) (a := opA b n a) (k := 7) (m := 7) (opA_le ha) (by decide)
    show InvR (upd W (8 + cl (nuV b n (opA b n a) 7)) _)
    rw [ej, cl_nI (by omega)]
    exact upd_inv hI (by omega) (fun k hk => by omega)
  · exact upd_inv hI (by omega) (fun k hk => by omega)
theorem oneC_le {b : Nat → Int32} {n : Nat} {W : Nat → Int32} {a : Nat} {f : Int32} (ha : a ≤ n) : (oneC b n W a f).2.1 ≤ n := by
  have ho := opA_le (b := b) (n := n) ha
  obtain ⟨o, eo⟩ : ∃ o, opA b n a = o := ⟨_, rfl⟩
  rw [eo] at ho
  rcases one_cases (b := b) (n := n) (W := W) (a := a) (f := f) with e | ⟨k, hk, h8, _, e⟩ | ⟨_, e⟩ | ⟨i, hi, _, e⟩ <;> rw [e, eo]
  · exact ho
  · exact tplC_le ho
  · have h1 := nuA_le (b := b) (m := 7) ho
    have h2 := nuA_le (b := b) (m := 9) h1
    unfold on1
    exact h2
  · have h1 := nuA_le (b := b) (m := kF 1 i) ho
    unfold on2
    exact h1
theorem peA_le {b : Nat → Int32} {n a : Nat} (h : a ≤ n) : peA b n a ≤ n := by
  unfold peA
  split
  · next c =>
    have : a < n := by
      unfold byR at c
      by_cases z : a < n
      · exact z
      · rw [if_neg z] at c; exact absurd c (by decide)
    exact blC_le (by omega)
  · exact h
def telC (b : Nat → Int32) (n : Nat) : Nat → (Nat → Int32) → Nat → Int32 → tT
  | 0, W, a, f => (W, a, f)
  | i + 1, W, a, f => if a < n ∧ f = -1 then telC b n i (oneC b n W a f).1 (peA b n (oneC b n W a f).2.1) (peF b n (oneC b n W a f).2.1 (oneC b n W a f).2.2) else (W, a, f)
theorem telC_e {b : Nat → Int32} {n : Nat} {W : Nat → Int32} {a : Nat} {f : Int32} (h : ¬ (a < n ∧ f = -1)) : ∀ i, telC b n i W a f = (W, a, f)
  | 0 => rfl
  | i + 1 => by rw [telC, if_neg h]
theorem telC_y {b : Nat → Int32} {n i : Nat} {W : Nat → Int32} {a : Nat} {f : Int32} (h : a < n) (h2 : f = -1) : telC b n (i + 1) W a f = telC b n i (oneC b n W a f).1 (peA b n (oneC b n W a f).2.1) (peF b n (oneC b n W a f).2.1 (oneC b n W a f).2.2) := by rw [telC, if_pos ⟨h, h2⟩]
theorem telC_0 {b : Nat → Int32} {n : Nat} {W : Nat → Int32} {a : Nat} {f : Int32} : telC b n 0 W a f = (W, a, f) := rfl
theorem tc_begin {M : Nat → Nat → Int32} {x : Int32} : mSet (mSet (Gs M) 29 2 0) 29 3 x = Gs (tcS M 0 x) := by
  refine congrArg (fun f => ((71, sh0, rf0, f) : pS)) ?_
  funext q
  by_cases h2 : q = 29
  · subst h2
    funext y
    show upd (upd (M 29) 2 0) 3 x y = (if y = 2 then nI 0 else if y = 3 then x else M 29 y)
    unfold upd
    by_cases h3 : y = 3
    · subst h3; rfl
    · rw [if_neg h3]
      by_cases h4 : y = 2
      · rw [if_pos h4, if_pos h4]; rfl
      · rw [if_neg h4, if_neg h4, if_neg h3]
  · have e1 : (mSet (mSet (Gs M) 29 2 0) 29 3 x).2.2.2 q = M q := by rw [mSet_ne h2, mSet_ne h2]; rfl
    refine e1.trans ?_
    show _ = (if q = 29 then _ else M q)
    rw [if_neg h2]
abbrev LD : List Nat := [10, 11, 12, 13, 14, 15, 16, 29]
theorem fr_tc {M M' : Nat → Nat → Int32} {a : Nat} {f : Int32} (h : fr LC (Gs M) (Gs M')) : fr LD (Gs M) (Gs (tcS M' a f)) := ⟨⟨rfl, rfl, rfl⟩, fun q hq => by
  show (if q = 29 then _ else M' q) = M q
  rw [if_neg (fun z => hq (by rw [z]; decide))]
  exact h.2 q (fun z => hq (by revert z; simp; omega))⟩
def telR (S : pS) (n : Nat) : tT := telC (S.2.2.2 30) n 200 (begC (vw S 10)) (blC (S.2.2.2 30) n 0) (-1)
theorem begC_ne {W : Nat → Int32} {x : Nat} (h : 16 ≤ x) : begC W x = W x := by
  rw [begC_e, pk_un (by omega), pk_un (by omega), pk_un (by omega), wtR_ne 8 (fun j hj => by omega), pk_un (by omega), pk_un (by omega), pk_un (by omega), pk_un (by omega)]
theorem begC_inv {W : Nat → Int32} (hI : InvR W) : InvR (begC W) := ⟨⟨0, by omega, by rw [begC_e, pk_un (by omega), pk_un (by omega), pk_us]; rfl⟩, fun k hk => by rw [begC_ne (by omega)]; exact hI.2 k hk⟩
set_option maxRecDepth 20000 in
set_option maxHeartbeats 1000000 in
theorem s_X8_tell (g : pG) {S : pS} (hS : sOk S) {n : Nat} (hn : n ≤ 200) (en : S.2.2.2 29 1 = nI n) (hI : InvR (vw S 10)) : MS g mX8_tell 8 0 0 [.ref 29, .ref 10] (S) (eI (fun x S1 => x = (telR (S) n).2.2 ∧ fr LD (S) S1 ∧ sOk S1 ∧ vw S1 10 = (telR (S) n).1 ∧ S1.2.2.2 29 1 = (S).2.2.2 29 1)) := by
  obtain ⟨M0, rfl⟩ := sOk_gs hS
  have en : M0 29 1 = nI n := en
  refine MS.of pn_X8 (Nat.le_of_ble_eq_true rfl) ?_
  refine r_aload_n dX8_tell_0 rfl rfl ?_
  refine r_callV_eV (ci := 0) dX8_tell_1 (s_X0_becomeAsAtFirst g (CoG (Or.inr (Or.inl rfl)))) mf_X0_becomeAsAtFirst mi_X0_becomeAsAtFirst se_X0_X0_X0_becomeAsAtFirst ml_X8_19 rfl rfl (Nat.le_of_ble_eq_true rfl) rfl (by decide) rfl (Nat.le_of_ble_eq_true rfl) ⟨(Nat.le_of_ble_eq_true rfl), (Nat.le_of_ble_eq_true rfl)⟩ ⟨(Nat.le_of_ble_eq_true rfl), (Nat.le_of_ble_eq_true rfl)⟩ (fun S_1 q_1 z_1 => ?_)
  obtain ⟨f1, v1⟩ := q_1
  obtain ⟨Ma, rfl⟩ := sOk_gs (f1.ok hS)
  have f1 : fr LC (Gs M0) (Gs Ma) := f1.mono (by decide)
  have ena : Ma 29 1 = nI n := (congrFun (f1.2 29 (by decide)) 1).trans en
  refine r_aload_n dX8_tell_4 rfl rfl ?_
  refine r_iconst (v := 0) dX8_tell_5 (by decide) ?_
  refine r_putI dX8_tell_6 (ci := 8) (kf := 2) rfl (Nat.le_of_ble_eq_true rfl) (by decide) (by decide) rfl fl_X8_24 (Or.inl rfl) rfl rfl rfl ?_
  refine r_aload_n dX8_tell_9 rfl rfl ?_
  refine r_iconst (v := (-1)) dX8_tell_10 (by decide) ?_
  refine r_putI dX8_tell_11 (ci := 8) (kf := 3) rfl (Nat.le_of_ble_eq_true rfl) (by decide) (by decide) rfl fl_X8_27 (Or.inl rfl) rfl rfl rfl ?_
  rw [tc_begin]
  refine r_aload_n dX8_tell_14 rfl rfl ?_
  refine r_callV_dV (ci := 8) dX8_tell_15 (s_X8_passBlanks g hn ena (Nat.zero_le n) _) mf_X8_passBlanks mi_X8_passBlanks se_X8_X8_X8_passBlanks ml_X8_30 rfl rfl (Nat.le_of_ble_eq_true rfl) rfl (by decide) rfl (Nat.le_of_ble_eq_true rfl) ⟨(Nat.le_of_ble_eq_true rfl), (Nat.le_of_ble_eq_true rfl)⟩ ⟨(Nat.le_of_ble_eq_true rfl), (Nat.le_of_ble_eq_true rfl)⟩ ?_
  refine r_iconst (v := 0) dX8_tell_18 (by decide) ?_
  refine r_istore_n dX8_tell_19 rfl (by decide) ?_
  have lp : ∀ (j_ : Nat) (i : Nat) (a : Nat) (f : Int32) (M : Nat → Nat → Int32) (hk : fr LC (Gs M0) (Gs M)) (e30 : M 30 = M0 30) (e29 : M 29 = M0 29) (ha : a ≤ n) (hIw : InvR (vw (Gs M) 10)) (hi : i ≤ 200) (hr : telC (M0 30) n (200 - i) (vw (Gs M) 10) a f = (telR (Gs M0) n)), 200 - i < j_ → PW g mX8_tell (eN g (Gs M0).1 8 0 0 (eI (fun x S1 => x = (telR (Gs M0) n).2.2 ∧ fr LD (Gs M0) S1 ∧ sOk S1 ∧ vw S1 10 = (telR (Gs M0) n).1 ∧ S1.2.2.2 29 1 = (Gs M0).2.2.2 29 1))) 20 [some (.ref 29), some (.ref 10), some (.int (nI i))] [] (Gs (tcS M (a) (f))) 0 0 := by
    intro j_
    induction j_ with
    | zero => intro i a f M hk e30 e29 ha hIw hi hr hj; exact absurd hj (Nat.not_lt_zero _)
    | succ j_ ih =>
      intro i a f M hk e30 e29 ha hIw hi hr hj
      have en1 : M 29 1 = nI n := by rw [e29]; exact en
      refine r_iload_n dX8_tell_20 rfl rfl ?_
      refine r_sipush (v := 200) dX8_tell_21 (by decide) ?_
      refine r_icmp_geN (i) (200) (tgt := 61) dX8_tell_24 (by decide) (by omega) (by omega) (fun c_24 => ?_) (fun c_24 => ?_)
      · (try dsimp only [Gs_M] at c_24)
        refine r_aload_n dX8_tell_61 rfl rfl ?_
        refine r_getI dX8_tell_62 (ci := 8) (kf := 3) rfl (Nat.le_of_ble_eq_true rfl) (by decide) (by decide) rfl fl_X8_27 (Or.inl rfl) ?_
        skip
        refine r_iret dX8_tell_65 rfl (Nat.le_refl _) ?_
        (try dsimp only [Gs_M])
        have e : telR (Gs M0) n = (vw (Gs M) 10, a, f) := (by rw [← hr, show 200 - i = 0 by omega, telC_0])
        refine ⟨_, rfl, ?_, fr_tc (hk), ⟨rfl, rfl, rfl⟩, ?_, ?_⟩
        · rw [e]
          rfl
        · rw [e, vw_tc (by omega)]
        · show M 29 1 = M0 29 1
          rw [e29]
      · (try dsimp only [Gs_M] at c_24)
        refine r_aload_n dX8_tell_27 rfl rfl ?_
        refine r_getI dX8_tell_28 (ci := 8) (kf := 2) rfl (Nat.le_of_ble_eq_true rfl) (by decide) (by decide) rfl fl_X8_24 (Or.inl rfl) ?_
        rw [tc_a]
        refine r_aload_n dX8_tell_31 rfl rfl ?_
        refine r_getI dX8_tell_32 (ci := 8) (kf := 1) rfl (Nat.le_of_ble_eq_true rfl) (by decide) (by decide) rfl fl_X8_15 (Or.inl rfl) ?_
        rw [show ∀ a f, (Gs (tcS M a f)).2.2.2 29 1 = nI n from fun _ _ => en1]
        refine r_icmp_geN (a) (n) (tgt := 61) dX8_tell_35 (by decide) (by omega) (by omega) (fun c_35 => ?_) (fun c_35 => ?_)
        · (try dsimp only [Gs_M] at c_35)
          refine r_aload_n dX8_tell_61 rfl rfl ?_
          refine r_getI dX8_tell_62 (ci := 8) (kf := 3) rfl (Nat.le_of_ble_eq_true rfl) (by decide) (by decide) rfl fl_X8_27 (Or.inl rfl) ?_
          skip
          refine r_iret dX8_tell_65 rfl (Nat.le_refl _) ?_
          (try dsimp only [Gs_M])
          have e : telR (Gs M0) n = (vw (Gs M) 10, a, f) := (by rw [← hr]; exact telC_e (fun z => by omega) _)
          refine ⟨_, rfl, ?_, fr_tc (hk), ⟨rfl, rfl, rfl⟩, ?_, ?_⟩
          · rw [e]
            rfl
          · rw [e, vw_tc (by omega)]
          · show M 29 1 = M0 29 1
            rw [e29]
        · (try dsimp only [Gs_M] at c_35)
          refine r_aload_n dX8_tell_38 rfl rfl ?_
          refine r_getI dX8_tell_39 (ci := 8) (kf := 3) rfl (Nat.le_of_ble_eq_true rfl) (by decide) (by decide) rfl fl_X8_27 (Or.inl rfl) ?_
          rw [tc_f]
          refine r_iconst (v := (-1)) dX8_tell_42 (by decide) ?_
          refine r_icmp_ne (tgt := 61) dX8_tell_43 (by decide) (fun c_43 => ?_) (fun c_43 => ?_)
          · (try dsimp only [Gs_M] at c_43)
            refine r_aload_n dX8_tell_61 rfl rfl ?_
            refine r_getI dX8_tell_62 (ci := 8) (kf := 3) rfl (Nat.le_of_ble_eq_true rfl) (by decide) (by decide) rfl fl_X8_27 (Or.inl rfl) ?_
            skip
            refine r_iret dX8_tell_65 rfl (Nat.le_refl _) ?_
            (try dsimp only [Gs_M])
            have e : telR (Gs M0) n = (vw (Gs M) 10, a, f) := (by rw [← hr]; exact telC_e (fun z => c_43 z.2) _)
            refine ⟨_, rfl, ?_, fr_tc (hk), ⟨rfl, rfl, rfl⟩, ?_, ?_⟩
            · rw [e]
              rfl
            · rw [e, vw_tc (by omega)]
            · show M 29 1 = M0 29 1
              rw [e29]
          · (try dsimp only [Gs_M] at c_43)
            refine r_aload_n dX8_tell_46 rfl rfl ?_
            refine r_aload_n dX8_tell_47 rfl rfl ?_
            refine r_callV_eV (ci := 8) dX8_tell_48 (s_X8_tellOne g hn en1 ha _ hIw) mf_X8_tellOne mi_X8_tellOne se_X8_X8_X8_tellOne ml_X8_33 rfl rfl (Nat.le_of_ble_eq_true rfl) rfl (by decide) rfl (Nat.le_of_ble_eq_true rfl) ⟨(Nat.le_of_ble_eq_true rfl), (Nat.le_of_ble_eq_true rfl)⟩ ⟨(Nat.le_of_ble_eq_true rfl), (Nat.le_of_ble_eq_true rfl)⟩ (fun S_48 q_48 z_48 => ?_)
            rw [e30] at q_48
            obtain ⟨M2, eS, hf2, hv2, e302, e292⟩ := q_48
            subst eS
            have en2 : M2 29 1 = nI n := by rw [e292]; exact en1
            have hle := oneC_le (b := M0 30) (W := vw (Gs M) 10) (f := f) ha
            have hinv := oneC_inv (b := M0 30) (f := f) hIw ha
            refine r_aload_n dX8_tell_51 rfl rfl ?_
            refine r_callV_dV (ci := 8) dX8_tell_52 (s_X8_passEnd g hn en2 hle _) mf_X8_passEnd mi_X8_passEnd se_X8_X8_X8_passEnd ml_X8_37 rfl rfl (Nat.le_of_ble_eq_true rfl) rfl (by decide) rfl (Nat.le_of_ble_eq_true rfl) ⟨(Nat.le_of_ble_eq_true rfl), (Nat.le_of_ble_eq_true rfl)⟩ ⟨(Nat.le_of_ble_eq_true rfl), (Nat.le_of_ble_eq_true rfl)⟩ ?_
            rw [show M2 30 = M0 30 from e302.trans e30]
            refine r_iinc (v := nI (i + 1)) dX8_tell_55 rfl (nI_1 _) (by decide) ?_
            refine r_goto (tgt := 20) dX8_tell_58 (by decide) ?_
            refine PW.subL (ih (i + 1) _ _ M2 (hk.tr hf2) (e302.trans e30) (e292.trans e29) (peA_le hle) (by rw [hv2]; exact hinv) (by omega) ?_ (by omega)) (by repeat' first | exact True.intro | refine And.intro rfl ?_)
            rw [hv2, ← hr, show 200 - i = (200 - (i + 1)) + 1 by omega, telC_y c_35 c_43]
  exact PW.subL (lp 201 0 _ _ Ma f1 (f1.2 30 (by decide)) (f1.2 29 (by decide)) (blC_le (Nat.zero_le _)) (v1 ▸ begC_inv hI) (by omega) (by rw [v1, show Ma 30 = M0 30 from f1.2 30 (by decide)]; rfl) (by omega)) (by repeat' first | exact True.intro | refine And.intro rfl ?_)
