/-! ===== the text: the steps of both sides ===== -/
/-- behind its part: how well it knows it, if told -/
theorem sk_e {L b b' : Nat → Int32} {n a : Nat} {P : pT} (hn : n ≤ 200) (h : BR b b') (hL : ∀ x, x < 112 → L x = ltr x) (ha : a ≤ n) (hT : TK L b' n a P) :
    ∃ sk Q, skF L b' n P = (sk, Q) ∧ ((¬ sk < 0 ∧ rg sk 99 ∧ ∃ a2, TK L b' n a2 Q ∧ a ≤ a2 ∧ a2 ≤ n ∧ ∀ (V : Nat → Int32) (k j : Nat), V (16 + 11 * k + (3 + j)) = 60 → knC b n k j (V, a, -1) = (upd V (16 + 11 * k + (3 + j)) sk, a2, -1)) ∨ (sk < 0 ∧ Q.2.1 ≤ n ∧ ∀ (V : Nat → Int32) (k j : Nat), (knC b n k j (V, a, -1)).2.2 = nI Q.2.1)) := by
  by_cases c : nmC b n a 12 = true
  · have e12 : P.2.2.1 = 12 := hT.2.2.1.trans ((tk_nm hn h hL (by omega) ha).mp c)
    obtain ⟨T4, lt4, le4⟩ := nm_next hn h (k := 12) (by omega) ha hT c
    refine ⟨_, _, skF_y e12 rfl rfl rfl, ?_⟩
    rcases num_e (m := 99) (f := -1) hn h le4 T4 with ⟨v1, v2, v3, v4, v5⟩ | ⟨v1, v2, v3⟩
    · refine Or.inl ⟨v2, by rw [v1]; exact nuV_r le4 (by decide), nuA b n (nmA b n a 12) 99, v4, by omega, nuA_le le4, fun V k j hV => ?_⟩
      rw [knC_y (T := (V, a, -1)) c]
      show (upd V _ _, _, _) = _
      rw [← v1]
      exact congrArg (fun x => (upd V (16 + 11 * k + (3 + j)) (tnV (nextR L b' n P) 99), nuA b n (nmA b n a 12) 99, x)) v3
    · refine Or.inr ⟨v1, by rw [v2, T4.1]; exact le4, fun V k j => ?_⟩
      rw [knC_y (T := (V, a, -1)) c, v2, T4.1]
      exact v3.trans flC_1
  · have e12 : ¬ P.2.2.1 = 12 := fun z => c ((tk_nm hn h hL (by omega) ha).mpr (hT.2.2.1.symm.trans z))
    refine ⟨60, P, skF_n e12, Or.inl ⟨by decide, ⟨60, by omega, rfl⟩, a, hT, Nat.le_refl _, ha, fun V k j hV => ?_⟩⟩
    rw [knC_n (T := (V, a, -1)) c, ← hV, upd_self]
theorem il_e {L b b' : Nat → Int32} {n a : Nat} {sk : Int32} {P : pT} (hn : n ≤ 200) (h : BR b b') (hL : ∀ x, x < 112 → L x = ltr x) (ha : a ≤ n) (hT : TK L b' n a P) (hs : ¬ sk < 0) :
    ∃ il Q, ilF L b' n sk P = (il, Q) ∧ ((¬ il < 0 ∧ rg il 9 ∧ ∃ a2, TK L b' n a2 Q ∧ a ≤ a2 ∧ a2 ≤ n ∧ ∀ (V : Nat → Int32) (k : Nat), V (16 + 11 * k + 2) = 0 → ilC b n k (V, a, -1) = (upd V (16 + 11 * k + 2) il, a2, -1)) ∨ (il < 0 ∧ Q.2.1 ≤ n ∧ ∀ (V : Nat → Int32) (k : Nat), (ilC b n k (V, a, -1)).2.2 = nI Q.2.1)) := by
  by_cases c : nmC b n a 13 = true
  · have e13 : P.2.2.1 = 13 := hT.2.2.1.trans ((tk_nm hn h hL (by omega) ha).mp c)
    obtain ⟨T4, lt4, le4⟩ := nm_next hn h (k := 13) (by omega) ha hT c
    refine ⟨_, _, ilF_y hs e13 rfl rfl rfl, ?_⟩
    rcases num_e (m := 9) (f := -1) hn h le4 T4 with ⟨v1, v2, v3, v4, v5⟩ | ⟨v1, v2, v3⟩
    · refine Or.inl ⟨v2, by rw [v1]; exact nuV_r le4 (by decide), nuA b n (nmA b n a 13) 9, v4, by omega, nuA_le le4, fun V k hV => ?_⟩
      rw [ilC_y (T := (V, a, -1)) c]
      show (upd V _ _, _, _) = _
      rw [← v1]
      exact congrArg (fun x => (upd V (16 + 11 * k + 2) (tnV (nextR L b' n P) 9), nuA b n (nmA b n a 13) 9, x)) v3
    · refine Or.inr ⟨v1, by rw [v2, T4.1]; exact le4, fun V k => ?_⟩
      rw [ilC_y (T := (V, a, -1)) c, v2, T4.1]
      exact v3.trans flC_1
  · have e13 : ¬ P.2.2.1 = 13 := fun z => c ((tk_nm hn h hL (by omega) ha).mpr (hT.2.2.1.symm.trans z))
    refine ⟨0, P, ilF_n (fun z => e13 z.2), Or.inl ⟨by decide, ⟨0, by omega, rfl⟩, a, hT, Nat.le_refl _, ha, fun V k hV => ?_⟩⟩
    rw [ilC_n (T := (V, a, -1)) c, ← hV, upd_self]
/-- what one entry leaves on both sides: both go on alike, or both have the fault at the same place -/
def OK1 (L b' : Nat → Int32) (n a0 : Nat) (z : Int32) (T : tT) (r : Bool × (Nat → Int32) × pT) : Prop := (r.1 = true ∧ T.2.2 = -1 ∧ TK L b' n T.2.1 r.2.2 ∧ RLt z T.1 r.2.1 ∧ a0 < T.2.1 ∧ T.2.1 ≤ n) ∨ (r.1 = false ∧ T.2.2 = nI r.2.2.2.1 ∧ r.2.2.2.1 ≤ n)
theorem tpl_e {L b b' : Nat → Int32} {n a0 a : Nat} {z kd : Int32} {P : pT} {W R : Nat → Int32} (hn : n ≤ 200) (h : BR b b') (hL : ∀ x, x < 112 → L x = ltr x) (h0 : a0 < a) (ha : a ≤ n) (hT : TK L b' n a (nextR L b' n P)) (hR : RLt z W R) (h8 : ¬ R 6 = 8) (hkd : rg kd 5) : OK1 L b' n a0 z (tplC b n kd W a (-1)) (plF L b' n kd R P) := by
  by_cases c : nmC b n a 11 = true
  · have e11 : (nextR L b' n P).2.2.1 = 11 := hT.2.2.1.trans ((tk_nm hn h hL (by omega) ha).mp c)
    obtain ⟨T2, lt2, le2⟩ := nm_next hn h (k := 11) (by omega) ha hT c
    have eo : ofF b n a (-1) = -1 := if_pos c
    rcases num_e (m := 7) (f := -1) hn h le2 T2 with ⟨v1, v2, v3, v4, v5⟩ | ⟨v1, v2, v3⟩
    · obtain ⟨j, hj, ej⟩ := nuV_r (b := b) (k := 7) (m := 7) le2 (by decide)
      have le3 := nuA_le (b := b) (m := 7) le2
      have et : tplC b n kd W a (-1) = ilC b n (plR R) (knC b n (plR R) j (plyNew W (plR R) j kd, nuA b n (nmA b n a 11) 7, -1)) := by
        unfold tplC
        rw [eo, v3, ej, cl_nI (by omega), hR.pl]
      rw [et]
      generalize nuA b n (nmA b n a 11) 7 = a3 at v4 v5 le3 ⊢
      obtain ⟨sk, P5, es, hs⟩ := sk_e hn h hL le3 v4
      rcases hs with ⟨s1, s2, a5, T5, s3, s4, s5⟩ | ⟨s1, s6, s5⟩
      · rw [s5 _ _ _ ply_60]
        obtain ⟨il, P7, ei, hi⟩ := il_e hn h hL s4 T5 s1
        rcases hi with ⟨i1, i2, a7, T7, i3, i4, i5⟩ | ⟨i1, i6, i5⟩
        · rw [i5 _ _ (by rw [pk_un (by omega)]; exact ply_i0)]
          have q := plF_4 (c := true) (kd := kd) h8 rfl e11 rfl rfl v2 rfl es ei rfl (by rw [v1, ej, cl_nI (by omega)] : cl (tnV (nextR L b' n (nextR L b' n P)) 7) = j) ⟨fun _ => ⟨s1, i1⟩, fun _ => rfl⟩
          rw [q]
          refine Or.inl ⟨rfl, rfl, T7, ?_, by show a0 < a7; omega, i4⟩
          show RLt z _ (plN R (plR R) j kd (tnV (nextR L b' n (nextR L b' n P)) 7) il sk)
          rw [v1, ej]
          exact ply_RLt hR h8 (by omega) hkd s2 i2
        · have q := plF_4 (c := false) (kd := kd) h8 rfl e11 rfl rfl v2 rfl es ei rfl rfl ⟨fun y => absurd y Bool.false_ne_true, fun y => absurd i1 y.2⟩
          rw [q]
          exact Or.inr ⟨rfl, i5 _ _, i6⟩
      · have q := plF_4 (c := false) (kd := kd) h8 rfl e11 rfl rfl v2 rfl es (ilF_n (fun y => y.1 s1)) rfl rfl ⟨fun y => absurd y Bool.false_ne_true, fun y => absurd s1 y.1⟩
        rw [q]
        have k1 := s5 (plyNew W (plR R) j kd) (plR R) j
        exact Or.inr ⟨rfl, (ilC_k (by rw [k1]; exact nIk (by omega))).trans k1, s6⟩
    · rw [plF_3 h8 e11 v1, v2]
      refine Or.inr ⟨rfl, ?_, by show (nextR L b' n (nextR L b' n P)).2.1 ≤ n; rw [T2.1]; exact le2⟩
      unfold tplC
      rw [eo, v3, flC_1]
      have hb : nI (nmA b n a 11) ≠ -1 := nIk (by omega)
      rw [ilC_k (by rw [knC_k hb]; exact hb), knC_k hb]
      exact congrArg nI T2.1.symm
  · have e11 : ¬ (nextR L b' n P).2.2.1 = 11 := fun y => c ((tk_nm hn h hL (by omega) ha).mpr (hT.2.2.1.symm.trans y))
    rw [plF_2 h8 e11]
    refine Or.inr ⟨rfl, ?_, by show (nextR L b' n P).2.1 ≤ n; rw [hT.1]; exact ha⟩
    have eo : ofF b n a (-1) = nI a := (if_neg c).trans flC_1
    have hb : nI a ≠ -1 := nIk (by omega)
    unfold tplC
    rw [eo, nuF_k hb, ilC_k (by rw [knC_k hb]; exact hb), knC_k hb]
    exact congrArg nI hT.1.symm
theorem OK1.mk {L b' : Nat → Int32} {n a0 a1 : Nat} {z : Int32} {T : tT} {r : Bool × (Nat → Int32) × pT} {W R : Nat → Int32} {P : pT} (e : T = (W, a1, -1)) (er : r = (true, R, P)) (h1 : TK L b' n a1 P) (h2 : RLt z W R) (h3 : a0 < a1) (h4 : a1 ≤ n) : OK1 L b' n a0 z T r := by
  subst e
  subst er
  exact Or.inl ⟨rfl, rfl, h1, h2, h3, h4⟩
theorem OK1.no {L b' : Nat → Int32} {n a0 : Nat} {z f : Int32} {T : tT} {r : Bool × (Nat → Int32) × pT} {R : Nat → Int32} {P : pT} (e : T.2.2 = f) (er : r = (false, R, P)) (h1 : f = nI P.2.1) (h2 : P.2.1 ≤ n) : OK1 L b' n a0 z T r := by
  subst er
  exact Or.inr ⟨rfl, e.trans h1, h2⟩
theorem on1_e {b : Nat → Int32} {n a j : Nat} {W : Nat → Int32} (v3 : nuF b n a 7 (-1) = -1) (ej : nuV b n a 7 = nI j) (hj : j < 2 ^ 31) : on1 b n W a (-1) = (upd W (8 + j) (nuV b n (nuA b n a 7) 9), nuA b n (nuA b n a 7) 9, nuF b n (nuA b n a 7) 9 (-1)) := by
  unfold on1
  rw [v3, ej, cl_nI hj]
theorem wg_e {L b b' : Nat → Int32} {n a0 a : Nat} {z : Int32} {P : pT} {W R : Nat → Int32} (hn : n ≤ 200) (h : BR b b') (h0 : a0 < a) (ha : a ≤ n) (hT : TK L b' n a (nextR L b' n P)) (hR : RLt z W R) : OK1 L b' n a0 z (on1 b n W a (-1)) (wgF L b' n R P) := by
  rcases num_e (m := 7) (f := -1) hn h ha hT with ⟨v1, v2, v3, v4, v5⟩ | ⟨v1, v2, v3⟩
  · obtain ⟨j, hj, ej⟩ := nuV_r (b := b) (k := 7) (m := 7) ha (by decide)
    have le2 := nuA_le (b := b) (m := 7) ha
    have ej2 : cl (tnV (nextR L b' n P) 7) = j := by rw [v1, ej, cl_nI (by omega)]
    have eo := on1_e (W := W) v3 ej (by omega)
    rcases num_e (m := 9) (f := -1) hn h le2 v4 with ⟨w1, w2, w3, w4, w5⟩ | ⟨w1, w2, w3⟩
    · rw [w3] at eo
      refine OK1.mk eo (wgF_y v2 ej2 w2) w4 ?_ (by omega) (nuA_le le2)
      rw [w1]
      exact hR.upw (by omega) (nuV_r le2 (by decide))
    · rw [w3, flC_1] at eo
      have er := wgF_n (R := R) v2 ej2 w1
      rw [w2] at er
      exact OK1.no (congrArg (fun x : tT => x.2.2) eo) er (congrArg nI v4.1.symm) (by rw [v4.1]; exact le2)
  · have er := wgF_0 (R := R) v1
    rw [v2] at er
    refine OK1.no (f := nI a) ?_ er (congrArg nI hT.1.symm) (by rw [hT.1]; exact ha)
    unfold on1
    show nuF b n (nuA b n a 7) 9 (nuF b n a 7 (-1)) = _
    rw [v3, flC_1, nuF_k (nIk (by omega))]
theorem lw_e {L b b' : Nat → Int32} {n a0 a i : Nat} {z : Int32} {P : pT} {W R : Nat → Int32} (hn : n ≤ 200) (h : BR b b') (h0 : a0 < a) (ha : a ≤ n) (hT : TK L b' n a (nextR L b' n P)) (hR : RLt z W R) (hi : i < 4) : OK1 L b' n a0 z (on2 b n i W a (-1)) (lwF L b' n (1 + i) R P) := by
  unfold on2
  have hv := nuV_r (b := b) (k := mxL i) (m := kF 1 i) ha (kF1_e hi)
  by_cases c : i < 2
  · have e9 : kF 1 i = 9 := by rcases (by omega : i = 0 ∨ i = 1) with rfl | rfl <;> decide
    rw [e9] at hv ⊢
    rcases num_e (m := 9) (f := -1) hn h ha hT with ⟨v1, v2, v3, v4, v5⟩ | ⟨v1, v2, v3⟩
    · rw [lwF_1y (by omega) v2]
      refine Or.inl ⟨rfl, v3, v4, ?_, by show a0 < nuA b n a 9; omega, nuA_le ha⟩
      show RLt z (upd W (1 + i) (nuV b n a 9)) (upd R (1 + i) (tnV (nextR L b' n P) 9))
      rw [v1]
      exact hR.upl hi hv
    · rw [lwF_1n (by omega) v1, v2]
      exact Or.inr ⟨rfl, (v3.trans flC_1).trans (congrArg nI hT.1.symm), by show (nextR L b' n P).2.1 ≤ n; rw [hT.1]; exact ha⟩
  · have e9 : kF 1 i = 99 := by rcases (by omega : i = 2 ∨ i = 3) with rfl | rfl <;> decide
    rw [e9] at hv ⊢
    rcases num_e (m := 99) (f := -1) hn h ha hT with ⟨v1, v2, v3, v4, v5⟩ | ⟨v1, v2, v3⟩
    · rw [lwF_2y (by omega) v2]
      refine Or.inl ⟨rfl, v3, v4, ?_, by show a0 < nuA b n a 99; omega, nuA_le ha⟩
      show RLt z (upd W (1 + i) (nuV b n a 99)) (upd R (1 + i) (tnV (nextR L b' n P) 99))
      rw [v1]
      exact hR.upl hi hv
    · rw [lwF_2n (by omega) v1, v2]
      exact Or.inr ⟨rfl, (v3.trans flC_1).trans (congrArg nI hT.1.symm), by show (nextR L b' n P).2.1 ≤ n; rw [hT.1]; exact ha⟩
theorem rd_e {L b b' : Nat → Int32} {n a : Nat} {z : Int32} {P : pT} {W R : Nat → Int32} (hn : n ≤ 200) (h : BR b b') (hL : ∀ x, x < 112 → L x = ltr x) (ha : a ≤ n) (hT : TK L b' n a P) (hR : RLt z W R) : OK1 L b' n a z (oneC b n W a (-1)) (rdF L b' n R P) := by
  rcases fw_sp (ok := nmC b n a) 11 (by omega) with ⟨e, hno⟩ | ⟨k, hk, e, hy⟩
  · have nt : ∀ w, w < 11 → ¬ P.2.2.1 = nI w := fun w hw y => by
      obtain ⟨r1, r2⟩ := rn_rk w hw
      exact hno (rk w) r2 ((tk_nm hn h hL (by omega) ha).mpr (by rw [r1, ← hT.2.2.1]; exact y))
    have n0 : ¬ (0 ≤ P.2.2.1 ∧ P.2.2.1 ≤ 5) := fun y => by
      obtain ⟨j, hj, ej⟩ := rng (x := P.2.2.1) 5 (by decide) y
      exact nt j (by omega) ej
    have n2 : ¬ (7 ≤ P.2.2.1 ∧ P.2.2.1 ≤ 10) := fun y => by
      obtain ⟨j, hj, ej⟩ := rng (x := P.2.2.1) (hi := 10) 10 (by decide) ⟨Int32.le_trans (by decide) y.1, y.2⟩
      exact nt j (by omega) ej
    rw [one_0 (show opC b n a = -3 from e), rd_3 n0 (nt 6 (by omega)) n2]
    exact Or.inr ⟨rfl, flC_1.trans (congrArg nI hT.1.symm), by show P.2.1 ≤ n; rw [hT.1]; exact ha⟩
  · have eC : opC b n a = nI k := e
    have tk : P.2.2.1 = nI (rn k) := hT.2.2.1.trans ((tk_nm hn h hL (by omega) ha).mp hy)
    have eA : opA b n a = nmA b n a k := by
      unfold opA
      rw [eC, if_neg (nI_ne3 (by omega)), cl_nI (by omega)]
    obtain ⟨T1, lt1, le1⟩ := nm_next hn h (k := k) (by omega) ha hT hy
    rw [← eA] at T1 lt1 le1
    by_cases c6 : k < 6
    · have er : rn k = k := if_pos c6
      rw [er] at tk
      have in5 : 0 ≤ P.2.2.1 ∧ P.2.2.1 ≤ 5 := in_c k 5 (by decide) (by omega) (by omega) tk
      rw [rd_0 in5, tk]
      by_cases h8 : R 6 = 8
      · rw [one_8 hk eC c6 (hR.h6.trans h8), plF_1 h8]
        exact Or.inr ⟨rfl, flC_1.trans (congrArg nI hT.1.symm), by show P.2.1 ≤ n; rw [hT.1]; exact ha⟩
      · rw [one_k hk eC c6 (by rw [hR.h6]; exact h8)]
        exact tpl_e hn h hL lt1 le1 T1 hR h8 ⟨k, by omega, rfl⟩
    · have n0 : ¬ (0 ≤ P.2.2.1 ∧ P.2.2.1 ≤ 5) := fun y => by
        obtain ⟨j, hj, ej⟩ := rng (x := P.2.2.1) 5 (by decide) y
        have := (nI_eq (by have := (tabL k (by omega)).2.2; omega) (by omega)).mp (tk.symm.trans ej)
        unfold rn at this
        split at this
        · omega
        · split at this
          · omega
          · split at this <;> omega
      by_cases c10 : k = 10
      · subst c10
        rw [one_10 eC, rd_1 n0 tk]
        exact wg_e hn h lt1 le1 T1 hR
      · have er : rn k = k + 1 := by unfold rn; rw [if_neg c6, if_pos (by omega)]
        rw [er] at tk
        have n1 : ¬ P.2.2.1 = 6 := fun y => by
          have := (nI_eq (a := k + 1) (b := 6) (by omega) (by omega)).mp (tk.symm.trans y)
          omega
        have n2 : 7 ≤ P.2.2.1 ∧ P.2.2.1 ≤ 10 := by
          rw [tk]
          exact ⟨nI_le (a := 7) (by omega) (by omega), nI_le (b := 10) (by omega) (by omega)⟩
        have ew : P.2.2.1 - 7 + 1 = nI (1 + (k - 6)) := by
          rw [tk, show (7 : Int32) = nI 7 from rfl, pk_sub (by omega), show (1 : Int32) = nI 1 from rfl, nI_add]
          exact congrArg nI (by omega)
        rw [one_l hk eC (by omega) c10, rd_2 n0 n1 n2 ew (by omega)]
        exact lw_e hn h lt1 le1 T1 hR (by omega)
theorem pe_e {L b b' : Nat → Int32} {n a : Nat} {z : Int32} {P : pT} {W R : Nat → Int32} (hn : n ≤ 200) (h : BR b b') (hL : ∀ x, x < 112 → L x = ltr x) (ha : a ≤ n) (hT : TK L b' n a P) (hR : RLt z W R) :
    ((oneF L b' n R P).1 = true ∧ peF b n (oneC b n W a (-1)).2.1 (oneC b n W a (-1)).2.2 = -1 ∧ TK L b' n (peA b n (oneC b n W a (-1)).2.1) (oneF L b' n R P).2.2 ∧ RLt z (oneC b n W a (-1)).1 (oneF L b' n R P).2.1 ∧ a < peA b n (oneC b n W a (-1)).2.1) ∨ ((oneF L b' n R P).1 = false ∧ peF b n (oneC b n W a (-1)).2.1 (oneC b n W a (-1)).2.2 = nI (oneF L b' n R P).2.2.2.1 ∧ (oneF L b' n R P).2.2.2.1 < 2 ^ 31) := by
  have q := rd_e hn h hL ha hT hR
  obtain ⟨T, eT⟩ : ∃ T, oneC b n W a (-1) = T := ⟨_, rfl⟩
  obtain ⟨r, er⟩ : ∃ r, rdF L b' n R P = r := ⟨_, rfl⟩
  rw [eT, er] at q
  rw [eT]
  rcases q with ⟨q1, q2, q3, q4, q5, q6⟩ | ⟨q1, q2, q3⟩
  · obtain ⟨s1, s2⟩ := tk_259 (L := L) (n := n) (a := T.2.1) h
    by_cases c : byR b n T.2.1 = 59
    · have e9 : r.2.2.2.2.1 = 259 := q3.2.2.1.trans (s1.mpr c)
      rw [oneF_y er q1 e9]
      have ep : tkP L b' n r.2.2 259 = nextR L b' n r.2.2 := if_pos e9
      have ea : peA b n T.2.1 = blC b n (T.2.1 + 1) := if_pos c
      have ef : peF b n T.2.1 T.2.2 = T.2.2 := if_pos c
      rw [ep, ea, ef]
      refine Or.inl ⟨rfl, q2, ?_, q4, Nat.lt_of_lt_of_le (by omega : a < T.2.1 + 1) (run_ge _ _)⟩
      rw [blC_e h, ← s2 c, ← q3.2.1]
      exact TK_next
    · have e9 : ¬ r.2.2.2.2.1 = 259 := fun y => c (s1.mp (q3.2.2.1.symm.trans y))
      rw [oneF_n er q1 e9]
      have ep : tkP L b' n r.2.2 259 = r.2.2 := if_neg e9
      have ef : peF b n T.2.1 T.2.2 = flC T.2.2 (nI T.2.1) := if_neg c
      rw [ep, ef, q2, flC_1]
      exact Or.inr ⟨rfl, congrArg nI q3.1.symm, by rw [q3.1]; omega⟩
  · rw [oneF_0 er (by rw [q1]; decide)]
    refine Or.inr ⟨rfl, ?_, by show r.2.2.2.1 < _; omega⟩
    show peF b n T.2.1 T.2.2 = nI r.2.2.2.1
    unfold peF
    rw [q2, flC_k (nIk (by omega))]
    split <;> rfl
theorem tk_end {L b b' : Nat → Int32} {n a : Nat} (h : BR b b') : tkT L b' n a = -1 ↔ ¬ a < n := by
  rcases tk_or (L := L) h n a with ⟨e, hna⟩ | ⟨hna, c, e⟩ | ⟨hna, c, e⟩ | ⟨u, hu, hna, e0, c2, c3, e⟩
  · exact ⟨fun _ => by omega, fun _ => e⟩
  · refine ⟨fun z => ?_, fun z => absurd hna z⟩
    rw [e] at z
    rcases nmT_or (L := L) (b := b') (n := n) (g := a) (e := runR isLo b' n (201 - a) a) 14 with ⟨e1, -⟩ | ⟨v, hv, e1, -⟩
    · rw [e1] at z
      exact absurd z (by decide)
    · rw [e1] at z
      exact absurd z (nIk (by omega))
  · refine ⟨fun z => ?_, fun z => absurd hna z⟩
    rw [e] at z
    split at z
    · exact absurd z (by decide)
    · exact absurd z (by decide)
  · refine ⟨fun z => ?_, fun z => absurd hna z⟩
    rw [e] at z
    exact absurd z (nIk (by omega))
/-- the whole text -/
theorem tel_e {L b b' : Nat → Int32} {n : Nat} {z : Int32} (hn : n ≤ 200) (h : BR b b') (hL : ∀ x, x < 112 → L x = ltr x) : ∀ (m a fC fR : Nat) (P : pT) (W R : Nat → Int32), n - a ≤ m → m ≤ fC → m < fR → a ≤ n → TK L b' n a P → RLt z W R →
    ((telC b n fC W a (-1)).2.2 = -1 ∧ (cmR L b' n fR true R P).1 = true ∧ RLt z (telC b n fC W a (-1)).1 (cmR L b' n fR true R P).2.1) ∨ ((telC b n fC W a (-1)).2.2 ≠ -1 ∧ (cmR L b' n fR true R P).1 = false ∧ (telC b n fC W a (-1)).2.2 = nI (cmR L b' n fR true R P).2.2.2.1) := by
  intro m
  induction m with
  | zero =>
    intro a fC fR P W R h1 h2 h3 ha hT hR
    have e : P.2.2.1 = -1 := hT.2.2.1.trans ((tk_end h).mpr (by omega))
    rw [telC_e (by omega), cmR_e (fun y => y.2 e)]
    exact Or.inl ⟨rfl, rfl, hR⟩
  | succ m ih =>
    intro a fC fR P W R h1 h2 h3 ha hT hR
    by_cases c : a < n
    · obtain ⟨fC, rfl⟩ : ∃ x, fC = x + 1 := ⟨fC - 1, by omega⟩
      obtain ⟨fR, rfl⟩ : ∃ x, fR = x + 1 := ⟨fR - 1, by omega⟩
      have e : ¬ P.2.2.1 = -1 := fun y => (tk_end h).mp (hT.2.2.1.symm.trans y) c
      rw [telC_y c rfl, cmR_y rfl e]
      have q := pe_e hn h hL ha hT hR
      obtain ⟨T, eT⟩ : ∃ T, oneC b n W a (-1) = T := ⟨_, rfl⟩
      obtain ⟨r, er⟩ : ∃ r, oneF L b' n R P = r := ⟨_, rfl⟩
      have lT : T.2.1 ≤ n := by rw [← eT]; exact oneC_le ha
      rw [eT, er] at q
      rw [eT, er]
      rcases q with ⟨q1, q2, q3, q4, q5⟩ | ⟨q1, q2, q3⟩
      · rw [q1, q2]
        exact ih _ _ _ _ _ _ (by omega) (by omega) (by omega) (peA_le lT) q3 q4
      · rw [q1, q2]
        have nn := nIk q3
        rw [telC_e (fun y => nn y.2), cmR_e (fun y => absurd y.1 Bool.false_ne_true)]
        exact Or.inr ⟨nn, rfl, rfl⟩
    · have e : P.2.2.1 = -1 := hT.2.2.1.trans ((tk_end h).mpr c)
      rw [telC_e (fun y => c y.1), cmR_e (fun y => y.2 e)]
      exact Or.inl ⟨rfl, rfl, hR⟩
