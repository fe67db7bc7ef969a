/-! ===== sheets of the class ===== -/
theorem r_alen {g : pG} {M : pM} {E : pE} {pc : Nat} {L : pL} {st : List Value} {S : pS} {k n : Nat} {i N : Nat} (d : decode M.2.1 pc = .ok (.arraylength, 1)) (hs : S.2.1 i = .inl (0, N)) (hi : i < S.1) (kk : PW g M E (pc + 1) L (.int (nI N) :: st) S k n) : PW g M E pc L (.ref i :: st) S k n := by
  intro p e s m args below meth c H locs ls hF hW hN hS hL
  have h := kk p e s m args below meth c H locs ls hF hW hN hS hL
  exact va_alen (x := (N, .inl (S.2.2.2 i))) (v := nI N) hF.1 hF.2.1 hW.K hW.P i 0 ((wsOf_get hi).trans (by rw [cellOf_a hs (by decide)])) rfl rfl d h
def Sh (S : pS) (q : Nat) : Prop := q + 1 < S.1 ∧ S.2.1 q = .inr 6 ∧ S.2.1 (q + 1) = .inl (0, 40) ∧ S.2.2.1 q 2 = some (q + 1)
theorem Sh_lt {S : pS} {q : Nat} (h : Sh S q) : q < S.1 := by have := h.1; omega
theorem ShG {M : Nat → Nat → Int32} {j : Nat} (h : j < 4) : Sh (Gs M) (34 + 2 * j) := by
  rcases (by omega : j = 0 ∨ j = 1 ∨ j = 2 ∨ j = 3) with rfl | rfl | rfl | rfl <;> exact ⟨Nat.le_of_ble_eq_true rfl, rfl, rfl, rfl⟩
theorem rf33 {j : Nat} (h : j < 4) : rf0 33 j = some (34 + 2 * j) := by
  rcases (by omega : j = 0 ∨ j = 1 ∨ j = 2 ∨ j = 3) with rfl | rfl | rfl | rfl <;> rfl
theorem fr.sh {J : List Nat} {S S' : pS} (h : fr J S S') {q : Nat} (hC : Sh S q) : Sh S' q := by
  unfold Sh at hC ⊢
  rw [h.1.1, h.1.2.1, h.1.2.2]
  exact hC
def tdU (it : Nat → Int32) : Nat → Nat
  | 0 => 0
  | n + 1 => if it n = -1 then tdU it n else n + 1
theorem tdU_0 {it : Nat → Int32} : tdU it 0 = 0 := rfl
theorem tdU_le {it : Nat → Int32} : ∀ n, tdU it n ≤ n
  | 0 => Nat.le_refl _
  | n + 1 => by
    rw [tdU]
    split
    · exact Nat.le_succ_of_le (tdU_le n)
    · exact Nat.le_refl _
theorem tdU_m {it : Nat → Int32} : ∀ n i, tdU it n ≤ i → i < n → it i = -1
  | 0, i, _, h => absurd h (Nat.not_lt_zero i)
  | n + 1, i, h1, h2 => by
    rw [tdU] at h1
    by_cases c : it n = -1
    · rw [if_pos c] at h1
      by_cases e : i = n
      · rw [e]; exact c
      · exact tdU_m n i h1 (by omega)
    · rw [if_neg c] at h1; omega
set_option maxRecDepth 20000 in
set_option maxHeartbeats 1000000 in
theorem s_X6_toldUpTo (g : pG) {S : pS} {q : Nat} (hQ : Sh S q) {n : Nat} (hn : n ≤ 40) (hz : S.2.2.2 q 1 = nI n) : MS g mX6_toldUpTo 1 0 0 [.ref q] (S) (dI (nI (tdU (S.2.2.2 (q + 1)) n)) S) := by
  refine MS.of pn_X6 (Nat.le_of_ble_eq_true rfl) ?_
  have lp : ∀ (j_ : Nat) (e : Nat) (he : e ≤ n) (ht : tdU (S.2.2.2 (q + 1)) e = tdU (S.2.2.2 (q + 1)) n), e < j_ → PW g mX6_toldUpTo (eN g S.1 1 0 0 (dI (nI (tdU (S.2.2.2 (q + 1)) n)) S)) 5 [some (.ref q), some (.int (nI e))] [] (S) 0 0 := by
    intro j_
    induction j_ with
    | zero => intro e he ht hj; exact absurd hj (Nat.not_lt_zero _)
    | succ j_ ih =>
      intro e he ht hj
      refine r_iload_n dX6_toldUpTo_5 rfl rfl ?_
      refine r_if_le (tgt := 27) dX6_toldUpTo_6 (by decide) (fun c_6 => ?_) (fun c_6 => ?_)
      · (try dsimp only [Gs_M] at c_6)
        have e0 : e = 0 := by
          rcases Nat.eq_zero_or_pos e with z | z
          · exact z
          · exact absurd c_6 (nI_nle z (by omega))
        subst e0
        refine r_iload_n dX6_toldUpTo_27 rfl rfl ?_
        refine r_iret dX6_toldUpTo_28 rfl (Nat.le_refl _) ?_
        (try dsimp only [Gs_M])
        refine dI_e ?_
        rw [← ht, tdU_0]
      · (try dsimp only [Gs_M] at c_6)
        obtain ⟨d, rfl⟩ : ∃ d, e = d + 1 := by
          rcases Nat.eq_zero_or_pos e with z | z
          · exact absurd (by rw [z]; decide) c_6
          · exact ⟨e - 1, by omega⟩
        refine r_aload_n dX6_toldUpTo_9 rfl rfl ?_
        refine r_getR (q := (q + 1)) dX6_toldUpTo_10 (ci := 6) (kf := 2) hQ.2.1 (Sh_lt hQ) (by decide) (by decide) rfl fl_X6_15 (Or.inl rfl) hQ.2.2.2 ?_
        refine r_iload_n dX6_toldUpTo_13 rfl rfl ?_
        refine r_iconst (v := 1) dX6_toldUpTo_14 (by decide) ?_
        refine r_isubN ((d + 1)) (1) dX6_toldUpTo_15 (by omega) ?_
        rw [show d + 1 - 1 = d by omega]
        refine r_iald (j := d) dX6_toldUpTo_16 hQ.2.2.1 hQ.1 rfl (by omega) (by decide) ?_
        refine r_iconst (v := (-1)) dX6_toldUpTo_17 (by decide) ?_
        refine r_icmp_ne (tgt := 27) dX6_toldUpTo_18 (by decide) (fun c_18 => ?_) (fun c_18 => ?_)
        · (try dsimp only [Gs_M] at c_18)
          refine r_iload_n dX6_toldUpTo_27 rfl rfl ?_
          refine r_iret dX6_toldUpTo_28 rfl (Nat.le_refl _) ?_
          (try dsimp only [Gs_M])
          refine dI_e ?_
          rw [← ht, tdU, if_neg c_18]
        · (try dsimp only [Gs_M] at c_18)
          refine r_iinc (v := nI (d)) dX6_toldUpTo_21 rfl (pk_m1 _) (by decide) ?_
          refine r_goto (tgt := 5) dX6_toldUpTo_24 (by decide) ?_
          exact PW.subL (ih d (by omega) (by rw [← ht, tdU, if_pos c_18]) (by omega)) (by repeat' first | exact True.intro | refine And.intro rfl ?_)
  refine r_aload_n dX6_toldUpTo_0 rfl rfl ?_
  refine r_getI dX6_toldUpTo_1 (ci := 6) (kf := 1) hQ.2.1 (Sh_lt hQ) (by decide) (by decide) rfl fl_X6_19 (Or.inl rfl) ?_
  rw [hz]
  refine r_istore_n dX6_toldUpTo_4 rfl (by decide) ?_
  exact PW.subL (lp (n + 1) n (Nat.le_refl _) rfl (by omega)) (by repeat' first | exact True.intro | refine And.intro rfl ?_)
set_option maxRecDepth 20000 in
set_option maxHeartbeats 1000000 in
theorem s_X6_become (g : pG) {S : pS} {q : Nat} (hQ : Sh S q) (so sz : Int32) : MS g mX6_become 1 0 0 [.ref q, .int so, .int sz] (S) (eV (fun S1 => fr [q, q + 1] S S1 ∧ S1.2.2.2 q = upd (upd (S.2.2.2 q) 0 so) 1 sz ∧ ∀ i, i < 40 → S1.2.2.2 (q + 1) i = 0)) := by
  refine MS.of pn_X6 (Nat.le_of_ble_eq_true rfl) ?_
  have lp : ∀ (j_ : Nat) (i : Nat) (S1 : pS) (hk : fr [q, q + 1] S S1) (hv : S1.2.2.2 q = upd (upd (S.2.2.2 q) 0 so) 1 sz) (hz : ∀ x, x < i → S1.2.2.2 (q + 1) x = 0) (hi : i ≤ 40), 40 - i < j_ → PW g mX6_become (eN g S.1 1 0 0 (eV (fun S1 => fr [q, q + 1] S S1 ∧ S1.2.2.2 q = upd (upd (S.2.2.2 q) 0 so) 1 sz ∧ ∀ i, i < 40 → S1.2.2.2 (q + 1) i = 0))) 12 [some (.ref q), some (.int so), some (.int sz), some (.int (nI i))] [] (S1) 0 0 := by
    intro j_
    induction j_ with
    | zero => intro i S1 hk hv hz hi hj; exact absurd hj (Nat.not_lt_zero _)
    | succ j_ ih =>
      intro i S1 hk hv hz hi hj
      have hQ1 := hk.sh hQ
      refine r_iload_n dX6_become_12 rfl rfl ?_
      refine r_bipush (v := 40) dX6_become_13 (by decide) ?_
      refine r_icmp_geN (i) (40) (tgt := 31) dX6_become_15 (by decide) (by omega) (by omega) (fun c_15 => ?_) (fun c_15 => ?_)
      · (try dsimp only [Gs_M] at c_15)
        refine r_vret dX6_become_31 rfl (Nat.le_refl _) ?_
        (try dsimp only [Gs_M])
        obtain rfl : i = 40 := by omega
        exact ⟨rfl, hk, hv, hz⟩
      · (try dsimp only [Gs_M] at c_15)
        refine r_aload_n dX6_become_18 rfl rfl ?_
        refine r_getR (q := (q + 1)) dX6_become_19 (ci := 6) (kf := 2) hQ1.2.1 (Sh_lt hQ1) (by decide) (by decide) rfl fl_X6_15 (Or.inl rfl) hQ1.2.2.2 ?_
        refine r_iload_n dX6_become_22 rfl rfl ?_
        refine r_iconst (v := 0) dX6_become_23 (by decide) ?_
        refine r_iast (j := i) dX6_become_24 hQ1.2.2.1 hQ1.1 rfl (by omega) (by decide) ?_
        refine r_iinc (v := nI (i + 1)) dX6_become_25 rfl (nI_1 _) (by decide) ?_
        refine r_goto (tgt := 12) dX6_become_28 (by decide) ?_
        refine PW.subL (ih (i + 1) _ (hk.set (by simp)) (by rw [mSet_ne (by omega)]; exact hv) (fun x hx => ?_) (by omega) (by omega)) (by repeat' first | exact True.intro | refine And.intro rfl ?_)
        rw [mSet_at]
        unfold upd
        by_cases e : x = i
        · rw [if_pos e]
        · rw [if_neg e]; exact hz x (by omega)
  refine r_aload_n dX6_become_0 rfl rfl ?_
  refine r_iload_n dX6_become_1 rfl rfl ?_
  refine r_putI dX6_become_2 (ci := 6) (kf := 0) hQ.2.1 (Sh_lt hQ) (by decide) (by decide) rfl fl_X6_9 (Or.inl rfl) rfl rfl rfl ?_
  refine r_aload_n dX6_become_5 rfl rfl ?_
  refine r_iload_n dX6_become_6 rfl rfl ?_
  refine r_putI dX6_become_7 (ci := 6) (kf := 1) hQ.2.1 (Sh_lt hQ) (by decide) (by decide) rfl fl_X6_19 (Or.inl rfl) rfl rfl rfl ?_
  refine r_iconst (v := 0) dX6_become_10 (by decide) ?_
  refine r_istore_n dX6_become_11 rfl (by decide) ?_
  exact PW.subL (lp 41 0 _ ((fr.rf.set (by simp)).set (by simp)) (by rw [mSet_at, mSet_at]) (fun x hx => absurd hx (Nat.not_lt_zero x)) (by omega) (by omega)) (by repeat' first | exact True.intro | refine And.intro rfl ?_)
def narC (so v : Int32) : Int32 := if so = 0 then v.toInt8.toInt32 else if so = 1 then v.toInt16.toInt32 else v
set_option maxRecDepth 20000 in
set_option maxHeartbeats 1000000 in
theorem s_X6_narrowed (g : pG) {S : pS} {q : Nat} (hQ : Sh S q) (v : Int32) : MS g mX6_narrowed 1 0 0 [.ref q, .int v] (S) (dI (narC (S.2.2.2 q 0) v) S) := by
  refine MS.of pn_X6 (Nat.le_of_ble_eq_true rfl) ?_
  refine r_aload_n dX6_narrowed_0 rfl rfl ?_
  refine r_getI dX6_narrowed_1 (ci := 6) (kf := 0) hQ.2.1 (Sh_lt hQ) (by decide) (by decide) rfl fl_X6_9 (Or.inl rfl) ?_
  by_cases e_4_0 : S.2.2.2 q 0 = 0
  · refine r_lookup (off := 28) (tgt := 32) dX6_narrowed_4 (by decide) (by rw [e_4_0]; rfl) (by decide) ?_
    refine r_iload_n dX6_narrowed_32 rfl rfl ?_
    refine r_i2b dX6_narrowed_33 rfl ?_
    refine r_iret dX6_narrowed_34 rfl (Nat.le_refl _) ?_
    (try dsimp only [Gs_M])
    exact dI_e (by rw [narC, if_pos e_4_0])
  by_cases e_4_1 : S.2.2.2 q 0 = 1
  · refine r_lookup (off := 31) (tgt := 35) dX6_narrowed_4 (by decide) (by rw [e_4_1]; rfl) (by decide) ?_
    refine r_iload_n dX6_narrowed_35 rfl rfl ?_
    refine r_i2s dX6_narrowed_36 rfl ?_
    refine r_iret dX6_narrowed_37 rfl (Nat.le_refl _) ?_
    (try dsimp only [Gs_M])
    exact dI_e (by rw [narC, if_neg e_4_0, if_pos e_4_1])
  refine r_lookup (off := 34) (tgt := 38) dX6_narrowed_4 (by decide) ((lv_osw e_4_0 rfl).trans <| (lv_osw e_4_1 rfl).trans <| rfl) (by decide) ?_
  refine r_iload_n dX6_narrowed_38 rfl rfl ?_
  refine r_iret dX6_narrowed_39 rfl (Nat.le_refl _) ?_
  (try dsimp only [Gs_M])
  exact dI_e (by rw [narC, if_neg e_4_0, if_neg e_4_1])
theorem fitR_go {V it : Nat → Int32} : ∀ i, (fitR V it i).1 = true → (fitR V it i).2 = goR V i
  | 0, _ => rfl
  | i + 1, h => by
    by_cases c : (fitR V it i).1 = true
    · rw [fitR_s2 c, fitR_go i c, goR]
    · have e := fitR_stop c 1
      rw [e] at h
      exact absurd h c
theorem fitR_any {V it : Nat → Int32} {e : Nat} (h : (fitR V it e).1 = true) : ∀ m, (∀ i, e ≤ i → i < e + m → it i = -1) → (fitR V it (e + m)).1 = true
  | 0, _ => h
  | m + 1, hm => by
    have h1 := fitR_any h m (fun i a b => hm i a (by omega))
    rw [← Nat.add_assoc, fitR_s1 h1]
    exact decide_eq_true (Or.inl (hm _ (by omega) (by omega)))
theorem goR_own {W : Nat → Int32} {k : Nat} : ∀ n, goR W n (16 + 11 * k + 1) = W (16 + 11 * k + 1)
  | 0 => rfl
  | n + 1 => by rw [goR, nightR_own]; exact goR_own n
theorem shT {S S' : pS} (h : fT LT S S') {j : Nat} : S'.2.2.2 (34 + 2 * j) = S.2.2.2 (34 + 2 * j) ∧ S'.2.2.2 (34 + 2 * j + 1) = S.2.2.2 (34 + 2 * j + 1) := ⟨h.1.2 _ (by simp; omega), h.1.2 _ (by simp; omega)⟩
set_option maxRecDepth 20000 in
set_option maxHeartbeats 1000000 in
theorem s_X10_isFitting (g : pG) {S : pS} (hS : sOk S) (hI : InvR (vw S 1)) (hN : InvN (vw S 1)) (j k v n : Nat) (hj4 : j < 4) (hk8 : k < plR (vw S 1)) (hv99 : v ≤ 99) (hn : n ≤ 40) (hz : S.2.2.2 (34 + 2 * j) 1 = nI n) : MS g mX10_isFitting 5 0 0 [.ref 28, .ref (34 + 2 * j), .int (nI k), .int (nI v)] (S) (eI (fun x S1 => x = bI (fitB (vw (S) 1) k ((S).2.2.2 (34 + 2 * j + 1)) n v = true) ∧ fT LT (S) S1 ∧ sOk S1)) := by
  obtain ⟨M0, rfl⟩ := sOk_gs hS
  obtain ⟨h8, hpl⟩ := hI.pl
  have how := hI.own k (by omega)
  have htd := tdU_le (it := (M0 (34 + 2 * j + 1))) n
  have hIV : InvR (ownV (vw (Gs M0) 1) k (nI v)) := ownV_inv hI (by omega)
  have hNV : InvN (ownV (vw (Gs M0) 1) k (nI v)) := hN.un how ⟨v, hv99, rfl⟩
  refine MS.of pn_X10 (Nat.le_of_ble_eq_true rfl) ?_
  refine r_aload_n dX10_isFitting_0 rfl rfl ?_
  refine r_getR (q := 10) dX10_isFitting_1 (ci := 10) (kf := 1) rfl (Nat.le_of_ble_eq_true rfl) (by decide) (by decide) rfl fl_X10_15 (Or.inl rfl) rfl ?_
  refine r_aload_n dX10_isFitting_4 rfl rfl ?_
  refine r_getR (q := 1) dX10_isFitting_5 (ci := 10) (kf := 0) rfl (Nat.le_of_ble_eq_true rfl) (by decide) (by decide) rfl fl_X10_9 (Or.inl rfl) rfl ?_
  refine r_callV_eV (ci := 0) dX10_isFitting_8 (c_X0_copyFrom g hS hI hN) mf_X0_copyFrom mi_X0_copyFrom se_X0_X0_X0_copyFrom ml_X10_28 rfl rfl (Nat.le_of_ble_eq_true rfl) rfl (by decide) rfl (Nat.le_of_ble_eq_true rfl) ⟨(Nat.le_of_ble_eq_true rfl), (Nat.le_of_ble_eq_true rfl)⟩ ⟨(Nat.le_of_ble_eq_true rfl), (Nat.le_of_ble_eq_true rfl)⟩ (fun S_8 q_8 z_8 => ?_)
  obtain ⟨f8, ok8, v8⟩ := q_8
  obtain ⟨Ma, rfl⟩ := sOk_gs ok8
  refine r_aload_n dX10_isFitting_11 rfl rfl ?_
  refine r_getR (q := 10) dX10_isFitting_12 (ci := 10) (kf := 1) rfl (Nat.le_of_ble_eq_true rfl) (by decide) (by decide) rfl fl_X10_15 (Or.inl rfl) rfl ?_
  refine r_iload_n dX10_isFitting_15 rfl rfl ?_
  refine r_aload_n dX10_isFitting_16 rfl rfl ?_
  refine r_getR (q := 10) dX10_isFitting_17 (ci := 10) (kf := 1) rfl (Nat.le_of_ble_eq_true rfl) (by decide) (by decide) rfl fl_X10_15 (Or.inl rfl) rfl ?_
  refine r_getR (q := (10 + 4)) dX10_isFitting_20 (ci := 0) (kf := 3) rfl (Nat.le_of_ble_eq_true rfl) (by decide) (by decide) rfl fl_X10_90 (Or.inl rfl) (CoG (Or.inr (Or.inl rfl))).2.2.2.2.2.2.1 ?_
  refine r_iload_n dX10_isFitting_23 rfl rfl ?_
  refine r_iald (j := k) dX10_isFitting_24 (CoG (Or.inr (Or.inl rfl))).2.2.1.2.2.2.1 (Co_la4 (CoG (Or.inr (Or.inl rfl)))) rfl (by omega) (by decide) ?_
  rw [show (Gs Ma).2.2.2 (10 + 4) k = nI (owR (vw (Gs M0) 1) k) by rw [← owR_v hI (by omega), ← v8]; exact (vw_o (by omega)).symm]
  refine r_iload_n dX10_isFitting_25 rfl rfl ?_
  refine r_callV_dV (ci := 0) dX10_isFitting_26 (s_X0_learnTo g (CoG (Or.inr (Or.inl rfl))) (k) ((owR (vw (Gs M0) 1) k)) (by omega) (by omega) _) mf_X0_learnTo mi_X0_learnTo se_X0_X0_X0_learnTo ml_X10_71 rfl rfl (Nat.le_of_ble_eq_true rfl) rfl (by decide) rfl (Nat.le_of_ble_eq_true rfl) ⟨(Nat.le_of_ble_eq_true rfl), (Nat.le_of_ble_eq_true rfl)⟩ ⟨(Nat.le_of_ble_eq_true rfl), (Nat.le_of_ble_eq_true rfl)⟩ ?_
  have okl : sOk (mSet (Gs Ma) (10 + 6) (k * 8 + owR (vw (Gs M0) 1) k) (heldR (nI v) 99)) := ok8
  have vl : vw (mSet (Gs Ma) (10 + 6) (k * 8 + owR (vw (Gs M0) 1) k) (heldR (nI v) 99)) 10 = goC (ownV (vw (Gs M0) 1) k (nI v)) 0 := by rw [vs_n (by omega) how, v8, held_i hv99]; rfl
  have fl : fT LT (Gs M0) (mSet (Gs Ma) (10 + 6) (k * 8 + owR (vw (Gs M0) 1) k) (heldR (nI v) 99)) := fT.of (f8.1.set (by decide)) vl (goC_inv hIV 0) (goC_N hNV 0)
  refine r_aload_n dX10_isFitting_29 rfl rfl ?_
  refine r_callV_dI (ci := 6) dX10_isFitting_30 (s_X6_toldUpTo g (S := (mSet (Gs Ma) (10 + 6) (k * 8 + owR (vw (Gs M0) 1) k) (heldR (nI v) 99))) (ShG hj4) hn ((congrFun (shT fl).1 1).trans hz)) mf_X6_toldUpTo mi_X6_toldUpTo se_X6_X6_X6_toldUpTo ml_X10_93 rfl rfl (Sh_lt (ShG hj4)) (ShG hj4).2.1 (by decide) rfl (Nat.le_of_ble_eq_true rfl) ⟨(Nat.le_of_ble_eq_true rfl), (Nat.le_of_ble_eq_true rfl)⟩ ⟨(Nat.le_of_ble_eq_true rfl), (Nat.le_of_ble_eq_true rfl)⟩ ?_
  rw [show (mSet (Gs Ma) (10 + 6) (k * 8 + owR (vw (Gs M0) 1) k) (heldR (nI v) 99)).2.2.2 (34 + 2 * j + 1) = (M0 (34 + 2 * j + 1)) from (shT fl).2]
  refine r_istore dX10_isFitting_33 (by decide) ?_
  refine r_iconst (v := 0) dX10_isFitting_35 (by decide) ?_
  refine r_istore dX10_isFitting_36 (by decide) ?_
  have lp : ∀ (j_ : Nat) (i : Nat) (S1 : pS) (ok : sOk S1) (hk : fT LT (Gs M0) S1) (hv : vw S1 10 = goC (ownV (vw (Gs M0) 1) k (nI v)) i) (hb : (fitR (ownV (vw (Gs M0) 1) k (nI v)) (M0 (34 + 2 * j + 1)) i).1 = true) (hi : i ≤ tdU (M0 (34 + 2 * j + 1)) n), tdU (M0 (34 + 2 * j + 1)) n - i < j_ → PW g mX10_isFitting (eN g (Gs M0).1 5 0 0 (eI (fun x S1 => x = bI (fitB (vw (Gs M0) 1) k ((Gs M0).2.2.2 (34 + 2 * j + 1)) n v = true) ∧ fT LT (Gs M0) S1 ∧ sOk S1))) 38 [some (.ref 28), some (.ref (34 + 2 * j)), some (.int (nI k)), some (.int (nI v)), some (.int (nI (tdU (M0 (34 + 2 * j + 1)) n))), some (.int (nI i)), none] [] (S1) 0 0 := by
    intro j_
    induction j_ with
    | zero => intro i S1 ok hk hv hb hi hj; exact absurd hj (Nat.not_lt_zero _)
    | succ j_ ih =>
      intro i S1 ok hk hv hb hi hj
      obtain ⟨M, rfl⟩ := sOk_gs ok
      have hI1 : InvR (vw (Gs M) 10) := hv ▸ goC_inv hIV i
      have hN1 : InvN (vw (Gs M) 10) := hv ▸ goC_N hNV i
      have es : showB (vw (Gs M) 10) = showB (goR (ownV (vw (Gs M0) 1) k (nI v)) i) := by rw [hv]; exact (goC_e hIV i).sB (goR_inv hIV i)
      refine r_iload dX10_isFitting_38 rfl ?_
      refine r_iload dX10_isFitting_40 rfl ?_
      refine r_icmp_geN (i) ((tdU (M0 (34 + 2 * j + 1)) n)) (tgt := 85) dX10_isFitting_42 (by decide) (by omega) (by omega) (fun c_42 => ?_) (fun c_42 => ?_)
      · (try dsimp only [Gs_M] at c_42)
        refine r_iconst (v := 1) dX10_isFitting_85 (by decide) ?_
        refine r_zret dX10_isFitting_86 rfl rfl (Nat.le_refl _) ?_
        (try dsimp only [Gs_M])
        have ee : i = tdU (M0 (34 + 2 * j + 1)) n := by omega
        refine ⟨_, rfl, (bI_t ?_).symm, hk, ok⟩
        unfold fitB
        have h1 := fitR_any (m := n - i) hb (fun y a b => tdU_m n y (by omega) (by omega))
        rw [show i + (n - i) = n by omega] at h1
        exact h1
      · (try dsimp only [Gs_M] at c_42)
        refine r_aload_n dX10_isFitting_45 rfl rfl ?_
        refine r_getR (q := 10) dX10_isFitting_46 (ci := 10) (kf := 1) rfl (Nat.le_of_ble_eq_true rfl) (by decide) (by decide) rfl fl_X10_15 (Or.inl rfl) rfl ?_
        refine r_callV_eI (ci := 0) dX10_isFitting_49 (c_X0_playNight g ok hI1 hN1) mf_X0_playNight mi_X0_playNight se_X0_X0_X0_playNight ml_X10_24 rfl rfl (Nat.le_of_ble_eq_true rfl) rfl (by decide) rfl (Nat.le_of_ble_eq_true rfl) ⟨(Nat.le_of_ble_eq_true rfl), (Nat.le_of_ble_eq_true rfl)⟩ ⟨(Nat.le_of_ble_eq_true rfl), (Nat.le_of_ble_eq_true rfl)⟩ (fun r_49 S_49 q_49 z_49 => ?_)
        obtain ⟨rfl, f49, ok49, v49, -, -⟩ := q_49
        obtain ⟨Mb, rfl⟩ := sOk_gs ok49
        have ei : (Gs Mb).2.2.2 (34 + 2 * j + 1) = (M0 (34 + 2 * j + 1)) := (shT (hk.tr f49)).2
        refine r_istore dX10_isFitting_52 (by decide) ?_
        refine r_aload_n dX10_isFitting_54 rfl rfl ?_
        refine r_getR (q := ((34 + 2 * j) + 1)) dX10_isFitting_55 (ci := 6) (kf := 2) (ShG hj4).2.1 (Sh_lt (ShG hj4)) (by decide) (by decide) rfl fl_X10_98 (Or.inl rfl) (ShG hj4).2.2.2 ?_
        refine r_iload dX10_isFitting_58 rfl ?_
        refine r_iald (j := i) dX10_isFitting_60 (ShG hj4).2.2.1 (ShG hj4).1 rfl (by omega) (by decide) ?_
        refine r_iconst (v := (-1)) dX10_isFitting_61 (by decide) ?_
        refine r_icmp_eq (tgt := 79) dX10_isFitting_62 (by decide) (fun c_62 => ?_) (fun c_62 => ?_)
        · (try dsimp only [Gs_M] at c_62)
          refine r_iinc (v := nI (i + 1)) dX10_isFitting_79 rfl (nI_1 _) (by decide) ?_
          refine r_goto (tgt := 38) dX10_isFitting_82 (by decide) ?_
          exact PW.subL (ih (i + 1) _ ok49 (hk.tr f49) (by rw [v49, goC, ← hv]) (by rw [fitR_s1 hb, fitR_go i hb]; exact decide_eq_true (Or.inl ((congrFun ei i).symm.trans c_62))) (by omega) (by omega)) (by repeat' first | exact True.intro | refine And.intro rfl ?_)
        · (try dsimp only [Gs_M] at c_62)
          refine r_aload_n dX10_isFitting_65 rfl rfl ?_
          refine r_getR (q := ((34 + 2 * j) + 1)) dX10_isFitting_66 (ci := 6) (kf := 2) (ShG hj4).2.1 (Sh_lt (ShG hj4)) (by decide) (by decide) rfl fl_X10_98 (Or.inl rfl) (ShG hj4).2.2.2 ?_
          refine r_iload dX10_isFitting_69 rfl ?_
          refine r_iald (j := i) dX10_isFitting_71 (ShG hj4).2.2.1 (ShG hj4).1 rfl (by omega) (by decide) ?_
          refine r_iload dX10_isFitting_72 rfl ?_
          refine r_icmp_eq (tgt := 79) dX10_isFitting_74 (by decide) (fun c_74 => ?_) (fun c_74 => ?_)
          · (try dsimp only [Gs_M] at c_74)
            refine r_iinc (v := nI (i + 1)) dX10_isFitting_79 rfl (nI_1 _) (by decide) ?_
            refine r_goto (tgt := 38) dX10_isFitting_82 (by decide) ?_
            exact PW.subL (ih (i + 1) _ ok49 (hk.tr f49) (by rw [v49, goC, ← hv]) (by rw [fitR_s1 hb, fitR_go i hb]; exact decide_eq_true (Or.inr ((congrFun ei i).symm.trans (c_74.trans es)))) (by omega) (by omega)) (by repeat' first | exact True.intro | refine And.intro rfl ?_)
          · (try dsimp only [Gs_M] at c_74)
            refine r_iconst (v := 0) dX10_isFitting_77 (by decide) ?_
            refine r_zret dX10_isFitting_78 rfl rfl (Nat.le_refl _) ?_
            (try dsimp only [Gs_M])
            have hneg : ¬ (fitR (ownV (vw (Gs M0) 1) k (nI v)) (M0 (34 + 2 * j + 1)) (i + 1)).1 = true := by
              rw [fitR_s1 hb, fitR_go i hb]
              intro z
              rcases of_decide_eq_true z with y | y
              · exact c_62 ((congrFun ei i).trans y)
              · exact c_74 ((congrFun ei i).trans (y.trans es.symm))
            refine ⟨_, rfl, (bI_f ?_).symm, hk.tr f49, ok49⟩
            unfold fitB
            rw [← fitR_end hneg (by omega)]
            exact hneg
  exact PW.subL (lp (tdU (M0 (34 + 2 * j + 1)) n + 1) 0 _ okl fl vl rfl (by omega) (by omega)) (by repeat' first | exact True.intro | refine And.intro rfl ?_)
