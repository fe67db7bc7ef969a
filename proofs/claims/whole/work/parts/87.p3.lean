abbrev LC : List Nat := [10, 11, 12, 13, 14, 15, 16]
theorem vw_tc {M : Nat → Nat → Int32} {a : Nat} {f : Int32} {b : Nat} (h : b + 6 < 29) : vw (Gs (tcS M a f)) b = vw (Gs M) b := vw_cong (fun c hc => by
  show (if b + c = 29 then _ else M (b + c)) = M (b + c)
  rw [if_neg (by omega)])
theorem tc_co {M : Nat → Nat → Int32} {a : Nat} {f : Int32} {S1 : pS} (ok : sOk S1) (h : fr LC (Gs (tcS M a f)) S1) : ∃ M', S1 = Gs (tcS M' a f) ∧ fr LC (Gs M) (Gs M') ∧ vw (Gs M') 10 = vw S1 10 ∧ M' 30 = M 30 ∧ M' 29 = M 29 := by
  obtain ⟨N, rfl⟩ := sOk_gs ok
  have e29 : N 29 = tcS M a f 29 := h.2 29 (by decide)
  have eo : ∀ q, q ∉ LC → N q = tcS M a f q := h.2
  refine ⟨fun q => if q = 29 then M 29 else N q, ?_, ⟨⟨rfl, rfl, rfl⟩, fun q hq => ?_⟩, vw_cong (fun c hc => ?_), ?_, if_pos rfl⟩
  · refine congrArg (fun f => ((71, sh0, rf0, f) : pS)) ?_
    funext q
    by_cases e : q = 29
    · subst e
      rw [e29]
      rfl
    · show N q = (if q = 29 then _ else if q = 29 then _ else N q)
      rw [if_neg e, if_neg e]
  · show (if q = 29 then M 29 else N q) = M q
    by_cases e : q = 29
    · rw [if_pos e, e]
    · rw [if_neg e, eo q hq]
      show (if q = 29 then _ else M q) = M q
      rw [if_neg e]
  · show (if 10 + c = 29 then M 29 else N (10 + c)) = N (10 + c)
    rw [if_neg (by omega)]
  · show (if 30 = 29 then M 29 else N 30) = M 30
    rw [if_neg (by omega), eo 30 (by decide)]
    rfl
abbrev tT := (Nat → Int32) × Nat × Int32
def knC (b : Nat → Int32) (n k j : Nat) (T : tT) : tT := if nmC b n T.2.1 12 = true then (upd T.1 (16 + 11 * k + (3 + j)) (nuV b n (nmA b n T.2.1 12) 99), nuA b n (nmA b n T.2.1 12) 99, nuF b n (nmA b n T.2.1 12) 99 T.2.2) else T
def ilC (b : Nat → Int32) (n k : Nat) (T : tT) : tT := if nmC b n T.2.1 13 = true then (upd T.1 (16 + 11 * k + 2) (nuV b n (nmA b n T.2.1 13) 9), nuA b n (nmA b n T.2.1 13) 9, nuF b n (nmA b n T.2.1 13) 9 T.2.2) else T
def ofF (b : Nat → Int32) (n a : Nat) (f : Int32) : Int32 := if nmC b n a 11 = true then f else flC f (nI a)
/-- behind the name of a kind: its part at a -/
def tplC (b : Nat → Int32) (n : Nat) (kd : Int32) (W : Nat → Int32) (a : Nat) (f : Int32) : tT :=
  ilC b n (plR W) (knC b n (plR W) (cl (nuV b n (nmA b n a 11) 7)) (plyNew W (plR W) (cl (nuV b n (nmA b n a 11) 7)) kd, nuA b n (nmA b n a 11) 7, nuF b n (nmA b n a 11) 7 (ofF b n a f)))
def tcP (M : Nat → Nat → Int32) (T : tT) : pS → Prop := fun S1 => ∃ M', S1 = Gs (tcS M' T.2.1 T.2.2) ∧ fr LC (Gs M) (Gs M') ∧ vw (Gs M') 10 = T.1 ∧ M' 30 = M 30 ∧ M' 29 = M 29
theorem knC_y {b : Nat → Int32} {n k j : Nat} {T : tT} (h : nmC b n T.2.1 12 = true) : knC b n k j T = (upd T.1 (16 + 11 * k + (3 + j)) (nuV b n (nmA b n T.2.1 12) 99), nuA b n (nmA b n T.2.1 12) 99, nuF b n (nmA b n T.2.1 12) 99 T.2.2) := if_pos h
theorem knC_n {b : Nat → Int32} {n k j : Nat} {T : tT} (h : ¬ nmC b n T.2.1 12 = true) : knC b n k j T = T := if_neg h
theorem ilC_y {b : Nat → Int32} {n k : Nat} {T : tT} (h : nmC b n T.2.1 13 = true) : ilC b n k T = (upd T.1 (16 + 11 * k + 2) (nuV b n (nmA b n T.2.1 13) 9), nuA b n (nmA b n T.2.1 13) 9, nuF b n (nmA b n T.2.1 13) 9 T.2.2) := if_pos h
theorem ilC_n {b : Nat → Int32} {n k : Nat} {T : tT} (h : ¬ nmC b n T.2.1 13 = true) : ilC b n k T = T := if_neg h
theorem knC_le {b : Nat → Int32} {n k j : Nat} {T : tT} (h : T.2.1 ≤ n) : (knC b n k j T).2.1 ≤ n := by
  unfold knC
  split
  · exact nuA_le (nmA_le h)
  · exact h
theorem ilC_le {b : Nat → Int32} {n k : Nat} {T : tT} (h : T.2.1 ≤ n) : (ilC b n k T).2.1 ≤ n := by
  unfold ilC
  split
  · exact nuA_le (nmA_le h)
  · exact h
theorem tplC_le {b : Nat → Int32} {n : Nat} {kd : Int32} {W : Nat → Int32} {a : Nat} {f : Int32} (h : a ≤ n) : (tplC b n kd W a f).2.1 ≤ n := ilC_le (knC_le (nuA_le (nmA_le h)))
set_option maxRecDepth 20000 in
set_option maxHeartbeats 1000000 in
theorem s_X8_tellPlayer (g : pG) {M : Nat → Nat → Int32} {n : Nat} (hn : n ≤ 200) (en : M 29 1 = nI n) {a : Nat} (ha : a ≤ n) (f : Int32) (hI : InvR (vw (Gs M) 10)) (h68 : ¬ vw (Gs M) 10 6 = 8) (kd : Int32) : MS g mX8_tellPlayer 6 0 0 [.ref 29, .ref 10, .int kd] (Gs (tcS M (a) (f))) (eV (tcP M (tplC (M 30) n kd (vw (Gs M) 10) a f))) := by
  obtain ⟨h8, hpl⟩ := hI.pl
  have hp8 : plR (vw (Gs M) 10) < 8 := by
    rcases Nat.lt_or_ge (plR (vw (Gs M) 10)) 8 with h | h
    · exact h
    · exact absurd (by rw [hpl, show plR (vw (Gs M) 10) = 8 by omega]; rfl) h68
  refine MS.of pn_X8 (Nat.le_of_ble_eq_true rfl) ?_
  have J17 : ∀ (a1 : Nat) (f1 : Int32), a1 ≤ n → a1 = nmA (M 30) n a 11 → f1 = ofF (M 30) n a f → PW g mX8_tellPlayer (eN g (Gs (tcS M (a) (f))).1 6 0 0 (eV (tcP M (tplC (M 30) n kd (vw (Gs M) 10) a f)))) 17 [some (.ref 29), some (.ref 10), some (.int kd), none, none] [] (Gs (tcS M a1 f1)) 0 0 := by
    intro a1 f1 ha1 ea1 ef1
    refine r_aload_n dX8_tellPlayer_17 rfl rfl ?_
    refine r_bipush (v := 7) dX8_tellPlayer_18 (by decide) ?_
    refine r_callV_dI (ci := 8) dX8_tellPlayer_20 (s_X8_passNumber g hn en ha1 _ 7) mf_X8_passNumber mi_X8_passNumber se_X8_X8_X8_passNumber ml_X8_55 rfl rfl (Nat.le_of_ble_eq_true rfl) rfl (by decide) rfl (Nat.le_of_ble_eq_true rfl) ⟨(Nat.le_of_ble_eq_true rfl), (Nat.le_of_ble_eq_true rfl)⟩ ⟨(Nat.le_of_ble_eq_true rfl), (Nat.le_of_ble_eq_true rfl)⟩ ?_
    obtain ⟨j, hj, ej⟩ := nuV_r (b := M 30) (n := n) (a := a1) (k := 7) (m := 7) ha1 (by decide)
    obtain ⟨a2, ea2⟩ : ∃ a2, nuA (M 30) n a1 7 = a2 := ⟨_, rfl⟩
    obtain ⟨f2, ef2⟩ : ∃ f2, nuF (M 30) n a1 7 f1 = f2 := ⟨_, rfl⟩
    have ha2 : a2 ≤ n := ea2 ▸ nuA_le ha1
    rw [ej, ea2, ef2]
    have hfin : ∀ T, T = knC (M 30) n (plR (vw (Gs M) 10)) j (plyNew (vw (Gs M) 10) (plR (vw (Gs M) 10)) j kd, a2, f2) → tplC (M 30) n kd (vw (Gs M) 10) a f = ilC (M 30) n (plR (vw (Gs M) 10)) T := by
      intro T eT
      unfold tplC
      rw [← ea1, ← ef1, ej, ea2, ef2, cl_nI (by omega), eT]
    have J54 : ∀ (T : tT) (M1 : Nat → Nat → Int32), T = knC (M 30) n (plR (vw (Gs M) 10)) j (plyNew (vw (Gs M) 10) (plR (vw (Gs M) 10)) j kd, a2, f2) → T.2.1 ≤ n → fr LC (Gs M) (Gs M1) → vw (Gs M1) 10 = T.1 → M1 30 = M 30 → M1 29 = M 29 → PW g mX8_tellPlayer (eN g (Gs (tcS M (a) (f))).1 6 0 0 (eV (tcP M (tplC (M 30) n kd (vw (Gs M) 10) a f)))) 54 [some (.ref 29), some (.ref 10), some (.int kd), some (.int (nI j)), some (.int (nI (plR (vw (Gs M) 10))))] [] (Gs (tcS M1 T.2.1 T.2.2)) 0 0 := by
      intro T M1 eT hT hfr hvw e30 e29
      have en1 : M1 29 1 = nI n := by rw [e29]; exact en
      have hres := hfin T eT
      refine r_aload_n dX8_tellPlayer_54 rfl rfl ?_
      refine r_bipush (v := 13) dX8_tellPlayer_55 (by decide) ?_
      refine r_callV_dI (ci := 8) dX8_tellPlayer_57 (s_X8_passName g hn en1 hT _ 13 (by omega)) mf_X8_passName mi_X8_passName se_X8_X8_X8_passName ml_X8_69 rfl rfl (Nat.le_of_ble_eq_true rfl) rfl (by decide) rfl (Nat.le_of_ble_eq_true rfl) ⟨(Nat.le_of_ble_eq_true rfl), (Nat.le_of_ble_eq_true rfl)⟩ ⟨(Nat.le_of_ble_eq_true rfl), (Nat.le_of_ble_eq_true rfl)⟩ ?_
      rw [e30]
      refine r_if_eq (tgt := 76) dX8_tellPlayer_60 (by decide) (fun c_60 => ?_) (fun c_60 => ?_)
      · have c_60 := bI_0 c_60
        (try dsimp only [Gs_M] at c_60)
        rw [nmA_n c_60]
        refine r_vret dX8_tellPlayer_76 rfl (Nat.le_refl _) ?_
        (try dsimp only [Gs_M])
        refine ⟨rfl, M1, ?_, hfr, ?_, e30, e29⟩
        · rw [hres, ilC_n c_60]
        · rw [hres, ilC_n c_60]
          exact hvw
      · have c_60 := bI_n c_60
        (try dsimp only [Gs_M] at c_60)
        skip
        refine r_aload_n dX8_tellPlayer_63 rfl rfl ?_
        refine r_getR (q := (10 + 5)) dX8_tellPlayer_64 (ci := 0) (kf := 4) rfl (Nat.le_of_ble_eq_true rfl) (by decide) (by decide) rfl fl_X8_81 (Or.inl rfl) (CoG (Or.inr (Or.inl rfl))).2.2.2.2.2.2.2.1 ?_
        refine r_iload dX8_tellPlayer_67 rfl ?_
        refine r_aload_n dX8_tellPlayer_69 rfl rfl ?_
        refine r_bipush (v := 9) dX8_tellPlayer_70 (by decide) ?_
        refine r_callV_dI (ci := 8) dX8_tellPlayer_72 (s_X8_passNumber g hn en1 (nmA_le hT) _ 9) mf_X8_passNumber mi_X8_passNumber se_X8_X8_X8_passNumber ml_X8_55 rfl rfl (Nat.le_of_ble_eq_true rfl) rfl (by decide) rfl (Nat.le_of_ble_eq_true rfl) ⟨(Nat.le_of_ble_eq_true rfl), (Nat.le_of_ble_eq_true rfl)⟩ ⟨(Nat.le_of_ble_eq_true rfl), (Nat.le_of_ble_eq_true rfl)⟩ ?_
        rw [e30]
        have eil := ilC_y (k := plR (vw (Gs M) 10)) c_60
        obtain ⟨iv, eiv⟩ : ∃ X, nuV (M 30) n (nmA (M 30) n T.2.1 13) 9 = X := ⟨_, rfl⟩
        obtain ⟨a6, ea6⟩ : ∃ X, nuA (M 30) n (nmA (M 30) n T.2.1 13) 9 = X := ⟨_, rfl⟩
        obtain ⟨f6, ef6⟩ : ∃ X, nuF (M 30) n (nmA (M 30) n T.2.1 13) 9 T.2.2 = X := ⟨_, rfl⟩
        rw [eiv, ea6, ef6] at eil
        rw [eiv, ea6, ef6]
        refine r_iast (j := plR (vw (Gs M) 10)) dX8_tellPlayer_75 (CoG (Or.inr (Or.inl rfl))).2.2.1.2.2.2.2.1 (Co_la5 (CoG (Or.inr (Or.inl rfl)))) rfl (by omega) (by decide) ?_
        refine r_vret dX8_tellPlayer_76 rfl (Nat.le_refl _) ?_
        (try dsimp only [Gs_M])
        obtain ⟨M2, eS, hf2, hv2, e302, e292⟩ := tc_co (M := M1) (S1 := mSet (Gs (tcS M1 a6 f6)) (10 + 5) (plR (vw (Gs M) 10)) iv) ⟨rfl, rfl, rfl⟩ (fr.rf.set (by decide))
        refine ⟨rfl, M2, ?_, hfr.tr hf2, ?_, e302.trans e30, e292.trans e29⟩
        · rw [hres, eil]
          exact eS
        · rw [hres, eil, hv2, vs_i (by omega), vw_tc (by omega), hvw]
    refine r_istore_n dX8_tellPlayer_23 rfl (by decide) ?_
    refine r_aload_n dX8_tellPlayer_24 rfl rfl ?_
    refine r_iload_n dX8_tellPlayer_25 rfl rfl ?_
    refine r_iload_n dX8_tellPlayer_26 rfl rfl ?_
    refine r_callV_eI (ci := 0) dX8_tellPlayer_27 (s_X0_join g (CoG (Or.inr (Or.inl rfl))) (k := plR (vw (Gs M) 10)) (by omega) (by rw [vw_tc (by omega)]; exact hpl) (j) (by omega) _) mf_X0_join mi_X0_join se_X0_X0_X0_join ml_X8_73 rfl rfl (Nat.le_of_ble_eq_true rfl) rfl (by decide) rfl (Nat.le_of_ble_eq_true rfl) ⟨(Nat.le_of_ble_eq_true rfl), (Nat.le_of_ble_eq_true rfl)⟩ ⟨(Nat.le_of_ble_eq_true rfl), (Nat.le_of_ble_eq_true rfl)⟩ (fun r_27 S_27 q_27 z_27 => ?_)
    obtain ⟨rfl, f27, v27⟩ := q_27
    obtain ⟨M1, rfl, hf1, hv1, e301, e291⟩ := tc_co (f27.ok ⟨rfl, rfl, rfl⟩) (f27.mono (by decide))
    have en1 : M1 29 1 = nI n := by rw [e291]; exact en
    have hv1 : vw (Gs M1) 10 = plyNew (vw (Gs M) 10) (plR (vw (Gs M) 10)) j kd := by rw [hv1, v27, vw_tc (by omega)]
    refine r_istore dX8_tellPlayer_30 (by decide) ?_
    refine r_aload_n dX8_tellPlayer_32 rfl rfl ?_
    refine r_bipush (v := 12) dX8_tellPlayer_33 (by decide) ?_
    refine r_callV_dI (ci := 8) dX8_tellPlayer_35 (s_X8_passName g hn en1 ha2 _ 12 (by omega)) mf_X8_passName mi_X8_passName se_X8_X8_X8_passName ml_X8_69 rfl rfl (Nat.le_of_ble_eq_true rfl) rfl (by decide) rfl (Nat.le_of_ble_eq_true rfl) ⟨(Nat.le_of_ble_eq_true rfl), (Nat.le_of_ble_eq_true rfl)⟩ ⟨(Nat.le_of_ble_eq_true rfl), (Nat.le_of_ble_eq_true rfl)⟩ ?_
    rw [e301]
    refine r_if_eq (tgt := 54) dX8_tellPlayer_38 (by decide) (fun c_38 => ?_) (fun c_38 => ?_)
    · have c_38 := bI_0 c_38
      (try dsimp only [Gs_M] at c_38)
      rw [nmA_n c_38]
      exact PW.subL (J54 _ M1 (knC_n c_38).symm ha2 hf1 hv1 e301 e291) (by repeat' first | exact True.intro | refine And.intro rfl ?_)
    · have c_38 := bI_n c_38
      (try dsimp only [Gs_M] at c_38)
      skip
      refine r_aload_n dX8_tellPlayer_41 rfl rfl ?_
      refine r_iload dX8_tellPlayer_42 rfl ?_
      refine r_iload_n dX8_tellPlayer_44 rfl rfl ?_
      refine r_aload_n dX8_tellPlayer_45 rfl rfl ?_
      refine r_bipush (v := 99) dX8_tellPlayer_46 (by decide) ?_
      refine r_callV_dI (ci := 8) dX8_tellPlayer_48 (s_X8_passNumber g hn en1 (nmA_le ha2) _ 99) mf_X8_passNumber mi_X8_passNumber se_X8_X8_X8_passNumber ml_X8_55 rfl rfl (Nat.le_of_ble_eq_true rfl) rfl (by decide) rfl (Nat.le_of_ble_eq_true rfl) ⟨(Nat.le_of_ble_eq_true rfl), (Nat.le_of_ble_eq_true rfl)⟩ ⟨(Nat.le_of_ble_eq_true rfl), (Nat.le_of_ble_eq_true rfl)⟩ ?_
      rw [e301]
      have ekn := knC_y (k := plR (vw (Gs M) 10)) (j := j) (T := (plyNew (vw (Gs M) 10) (plR (vw (Gs M) 10)) j kd, a2, f2)) c_38
      dsimp only at ekn
      obtain ⟨kv, hkv, ekv⟩ := nuV_r (b := M 30) (n := n) (a := nmA (M 30) n a2 12) (k := 99) (m := 99) (nmA_le ha2) (by decide)
      obtain ⟨a4, ea4⟩ : ∃ X, nuA (M 30) n (nmA (M 30) n a2 12) 99 = X := ⟨_, rfl⟩
      obtain ⟨f4, ef4⟩ : ∃ X, nuF (M 30) n (nmA (M 30) n a2 12) 99 f2 = X := ⟨_, rfl⟩
      have ha4 : a4 ≤ n := ea4 ▸ nuA_le (nmA_le ha2)
      rw [ekv, ea4, ef4] at ekn
      rw [ekv, ea4, ef4]
      refine r_callV_dV (ci := 0) dX8_tellPlayer_51 (s_X0_learnTo g (CoG (Or.inr (Or.inl rfl))) (plR (vw (Gs M) 10)) (j) (by omega) (by omega) _) mf_X0_learnTo mi_X0_learnTo se_X0_X0_X0_learnTo ml_X8_77 rfl rfl (Nat.le_of_ble_eq_true rfl) rfl (by decide) rfl (Nat.le_of_ble_eq_true rfl) ⟨(Nat.le_of_ble_eq_true rfl), (Nat.le_of_ble_eq_true rfl)⟩ ⟨(Nat.le_of_ble_eq_true rfl), (Nat.le_of_ble_eq_true rfl)⟩ ?_
      obtain ⟨M2, eS, hf2, hv2, e302, e292⟩ := tc_co (M := M1) (S1 := mSet (Gs (tcS M1 a4 f4)) (10 + 6) (plR (vw (Gs M) 10) * 8 + j) (heldR (nI kv) 99)) ⟨rfl, rfl, rfl⟩ (fr.rf.set (by decide))
      rw [eS]
      refine PW.subL (J54 (upd (plyNew (vw (Gs M) 10) (plR (vw (Gs M) 10)) j kd) (16 + 11 * plR (vw (Gs M) 10) + (3 + j)) (nI kv), a4, f4) M2 ekn.symm ha4 (hf1.tr hf2) ?_ (e302.trans e301) (e292.trans e291)) (by repeat' first | exact True.intro | refine And.intro rfl ?_)
      rw [hv2, vs_n (by omega) (by omega), vw_tc (by omega), hv1, held_i hkv]
  refine r_aload_n dX8_tellPlayer_0 rfl rfl ?_
  refine r_bipush (v := 11) dX8_tellPlayer_1 (by decide) ?_
  refine r_callV_dI (ci := 8) dX8_tellPlayer_3 (s_X8_passName g hn en ha _ 11 (by omega)) mf_X8_passName mi_X8_passName se_X8_X8_X8_passName ml_X8_69 rfl rfl (Nat.le_of_ble_eq_true rfl) rfl (by decide) rfl (Nat.le_of_ble_eq_true rfl) ⟨(Nat.le_of_ble_eq_true rfl), (Nat.le_of_ble_eq_true rfl)⟩ ⟨(Nat.le_of_ble_eq_true rfl), (Nat.le_of_ble_eq_true rfl)⟩ ?_
  refine r_if_ne (tgt := 17) dX8_tellPlayer_6 (by decide) (fun c_6 => ?_) (fun c_6 => ?_)
  · have c_6 := bI_n c_6
    (try dsimp only [Gs_M] at c_6)
    exact PW.subL (J17 _ _ (nmA_le ha) rfl (if_pos c_6).symm) (by repeat' first | exact True.intro | refine And.intro rfl ?_)
  · have c_6 := bI_0 c_6
    (try dsimp only [Gs_M] at c_6)
    refine r_aload_n dX8_tellPlayer_9 rfl rfl ?_
    refine r_aload_n dX8_tellPlayer_10 rfl rfl ?_
    refine r_getI dX8_tellPlayer_11 (ci := 8) (kf := 2) rfl (Nat.le_of_ble_eq_true rfl) (by decide) (by decide) rfl fl_X8_24 (Or.inl rfl) ?_
    rw [nmA_n c_6, tc_a]
    refine r_callV_dV (ci := 8) dX8_tellPlayer_14 (s_X8_fail g _ _) mf_X8_fail mi_X8_fail se_X8_X8_X8_fail ml_X8_47 rfl rfl (Nat.le_of_ble_eq_true rfl) rfl (by decide) rfl (Nat.le_of_ble_eq_true rfl) ⟨(Nat.le_of_ble_eq_true rfl), (Nat.le_of_ble_eq_true rfl)⟩ ⟨(Nat.le_of_ble_eq_true rfl), (Nat.le_of_ble_eq_true rfl)⟩ ?_
    exact PW.subL (J17 a _ ha (nmA_n c_6).symm (if_neg c_6).symm) (by repeat' first | exact True.intro | refine And.intro rfl ?_)
