def uS (x : Int32) (k : Int32) : Int32 := (x.toUInt32 >>> (k.toUInt32 &&& Int32.toUInt32 31)).toInt32
def bc1 (x : Int32) : Int32 := x - (uS x 1 &&& 1431655765)
def bc2 (x : Int32) : Int32 := (x &&& 858993459) + (uS x 2 &&& 858993459)
def bc3 (x : Int32) : Int32 := (x + uS x 4) &&& 252645135
def bc4 (x : Int32) : Int32 := x + uS x 8
def bc5 (x : Int32) : Int32 := x + uS x 16
def bcX (x : Int32) : Int32 := bc5 (bc4 (bc3 (bc2 (bc1 x)))) &&& 63
theorem bcE {n : Nat} (h : n < 256) : bcX (nI n) = nI (pcR 8 n) := by
  have H : ∀ q : Fin 256, bcX (nI q.1) = nI (pcR 8 q.1) := by decide +kernel
  exact H ⟨n, h⟩
set_option maxRecDepth 20000 in
set_option maxHeartbeats 1000000 in
theorem s_J6_bitCount_0f7a4 (g : pG) (n : Nat) (hn : n < 256) (S : pS) : MS g mJ6_bitCount_0f7a4 1 0 0 [.int (nI n)] (S) (dI (nI (pcR 8 n)) S) := by
  refine MS.of pn_J6 (Nat.le_of_ble_eq_true rfl) ?_
  refine r_iload_n dJ6_bitCount_0f7a4_0 rfl rfl ?_
  refine r_iload_n dJ6_bitCount_0f7a4_1 rfl rfl ?_
  refine r_iconst (v := 1) dJ6_bitCount_0f7a4_2 (by decide) ?_
  refine r_iushr dJ6_bitCount_0f7a4_3 rfl ?_
  refine r_ldcw dJ6_bitCount_0f7a4_4 kc_J6_265 ?_
  refine r_iand dJ6_bitCount_0f7a4_7 ?_
  refine r_isub dJ6_bitCount_0f7a4_8 ?_
  refine r_istore_n dJ6_bitCount_0f7a4_9 rfl (by decide) ?_
  refine r_iload_n dJ6_bitCount_0f7a4_10 rfl rfl ?_
  refine r_ldcw dJ6_bitCount_0f7a4_11 kc_J6_266 ?_
  refine r_iand dJ6_bitCount_0f7a4_14 ?_
  refine r_iload_n dJ6_bitCount_0f7a4_15 rfl rfl ?_
  refine r_iconst (v := 2) dJ6_bitCount_0f7a4_16 (by decide) ?_
  refine r_iushr dJ6_bitCount_0f7a4_17 rfl ?_
  refine r_ldcw dJ6_bitCount_0f7a4_18 kc_J6_266 ?_
  refine r_iand dJ6_bitCount_0f7a4_21 ?_
  refine r_iadd dJ6_bitCount_0f7a4_22 ?_
  refine r_istore_n dJ6_bitCount_0f7a4_23 rfl (by decide) ?_
  refine r_iload_n dJ6_bitCount_0f7a4_24 rfl rfl ?_
  refine r_iload_n dJ6_bitCount_0f7a4_25 rfl rfl ?_
  refine r_iconst (v := 4) dJ6_bitCount_0f7a4_26 (by decide) ?_
  refine r_iushr dJ6_bitCount_0f7a4_27 rfl ?_
  refine r_iadd dJ6_bitCount_0f7a4_28 ?_
  refine r_ldcw dJ6_bitCount_0f7a4_29 kc_J6_267 ?_
  refine r_iand dJ6_bitCount_0f7a4_32 ?_
  refine r_istore_n dJ6_bitCount_0f7a4_33 rfl (by decide) ?_
  refine r_iload_n dJ6_bitCount_0f7a4_34 rfl rfl ?_
  refine r_iload_n dJ6_bitCount_0f7a4_35 rfl rfl ?_
  refine r_bipush (v := 8) dJ6_bitCount_0f7a4_36 (by decide) ?_
  refine r_iushr dJ6_bitCount_0f7a4_38 rfl ?_
  refine r_iadd dJ6_bitCount_0f7a4_39 ?_
  refine r_istore_n dJ6_bitCount_0f7a4_40 rfl (by decide) ?_
  refine r_iload_n dJ6_bitCount_0f7a4_41 rfl rfl ?_
  refine r_iload_n dJ6_bitCount_0f7a4_42 rfl rfl ?_
  refine r_bipush (v := 16) dJ6_bitCount_0f7a4_43 (by decide) ?_
  refine r_iushr dJ6_bitCount_0f7a4_45 rfl ?_
  refine r_iadd dJ6_bitCount_0f7a4_46 ?_
  refine r_istore_n dJ6_bitCount_0f7a4_47 rfl (by decide) ?_
  refine r_iload_n dJ6_bitCount_0f7a4_48 rfl rfl ?_
  refine r_bipush (v := 63) dJ6_bitCount_0f7a4_49 (by decide) ?_
  refine r_iand dJ6_bitCount_0f7a4_51 ?_
  refine r_iret dJ6_bitCount_0f7a4_52 rfl (Nat.le_refl _) ?_
  (try dsimp only [Gs_M])
  exact dI_e (bcE hn)
def pwoR (W : Nat → Int32) : Nat → Int32
  | 0 => 0
  | k + 1 => pwoR W k ||| ((1 : Int32) <<< (W (16 + 11 * k + 1) &&& 31))
theorem pwoB {W : Nat → Int32} (hI : InvR W) : ∀ k, k ≤ 8 → ∃ n, n < 256 ∧ pwoR W k = nI n
  | 0, _ => ⟨0, by omega, rfl⟩
  | k + 1, h => by
    obtain ⟨n, hn, en⟩ := pwoB hI k (by omega)
    obtain ⟨o, ho, eo⟩ := hI.2 k (by omega)
    have h2 : 2 ^ o < 2 ^ 8 := Nat.pow_lt_pow_right (by decide) ho
    refine ⟨n ||| 2 ^ o, Nat.or_lt_two_pow (n := 8) hn h2, ?_⟩
    rw [pwoR, en, eo, shl_pl (by omega), nI_or (by omega) (by omega)]
set_option maxRecDepth 20000 in
set_option maxHeartbeats 1000000 in
theorem s_X0_partsOwned (g : pG) {S : pS} {b : Nat} (hC : Co S b) (hI : InvR (vw S b)) : MS g mX0_partsOwned 2 0 0 [.ref b] (S) (dI (nI (pcR 8 (cl (pwoR (vw S b) (plR (vw S b)))))) S) := by
  obtain ⟨h8, hpl⟩ := hI.pl
  have hpl : S.2.2.2 b 6 = nI (plR (vw S b)) := hpl
  refine MS.of pn_X0 (Nat.le_of_ble_eq_true rfl) ?_
  have lp : ∀ (j_ : Nat) (k : Nat) (set : Int32) (hs : set = pwoR (vw S b) k) (hkn : k ≤ plR (vw S b)), plR (vw S b) - k < j_ → PW g mX0_partsOwned (eN g S.1 2 0 0 (dI (nI (pcR 8 (cl (pwoR (vw S b) (plR (vw S b)))))) S)) 4 [some (.ref b), some (.int set), some (.int (nI k))] [] (S) 0 0 := by
    intro j_
    induction j_ with
    | zero => intro k set hs hkn hj; exact absurd hj (Nat.not_lt_zero _)
    | succ j_ ih =>
      intro k set hs hkn hj
      refine r_iload_n dX0_partsOwned_4 rfl rfl ?_
      refine r_aload_n dX0_partsOwned_5 rfl rfl ?_
      refine r_getI dX0_partsOwned_6 (ci := 0) (kf := 6) hC.2.1 (Co_lt hC) (by decide) (by decide) rfl fl_X0_52 (Or.inl rfl) ?_
      rw [hpl]
      refine r_icmp_geN (k) (plR (vw S b)) (tgt := 29) dX0_partsOwned_9 (by decide) (by omega) (by omega) (fun c_9 => ?_) (fun c_9 => ?_)
      · (try dsimp only [Gs_M] at c_9)
        refine r_iload_n dX0_partsOwned_29 rfl rfl ?_
        have ek : k = plR (vw S b) := by omega
        subst ek
        obtain ⟨n, hn, en⟩ := pwoB hI _ h8
        rw [hs, en]
        refine r_callS_dI dX0_partsOwned_30 (s_J6_bitCount_0f7a4 g n hn _) mf_J6_bitCount_0f7a4 mt_J6_bitCount_0f7a4 ml_X0_110 rfl rfl (Nat.le_of_ble_eq_true rfl) ⟨(Nat.le_of_ble_eq_true rfl), (Nat.le_of_ble_eq_true rfl)⟩ ⟨(Nat.le_of_ble_eq_true rfl), (Nat.le_of_ble_eq_true rfl)⟩ ?_
        refine r_iret dX0_partsOwned_33 rfl (Nat.le_refl _) ?_
        (try dsimp only [Gs_M])
        exact dI_e (by rw [cl_nI (by omega)])
      · (try dsimp only [Gs_M] at c_9)
        refine r_iload_n dX0_partsOwned_12 rfl rfl ?_
        refine r_iconst (v := 1) dX0_partsOwned_13 (by decide) ?_
        refine r_aload_n dX0_partsOwned_14 rfl rfl ?_
        refine r_getR (q := (b + 4)) dX0_partsOwned_15 (ci := 0) (kf := 3) hC.2.1 (Co_lt hC) (by decide) (by decide) rfl fl_X0_21 (Or.inl rfl) hC.2.2.2.2.2.2.1 ?_
        refine r_iload_n dX0_partsOwned_18 rfl rfl ?_
        refine r_iald (j := k) dX0_partsOwned_19 hC.2.2.1.2.2.2.1 (Co_la4 hC) rfl (by omega) (by decide) ?_
        refine r_ishl dX0_partsOwned_20 ?_
        refine r_ior dX0_partsOwned_21 ?_
        refine r_istore_n dX0_partsOwned_22 rfl (by decide) ?_
        refine r_iinc (v := nI (k + 1)) dX0_partsOwned_23 rfl (nI_1 _) (by decide) ?_
        refine r_goto (tgt := 4) dX0_partsOwned_26 (by decide) ?_
        exact PW.subL (ih (k + 1) _ (by rw [pwoR, vw_o (by omega), ← hs]) (by omega) (by omega)) (by repeat' first | exact True.intro | refine And.intro rfl ?_)
  refine r_iconst (v := 0) dX0_partsOwned_0 (by decide) ?_
  refine r_istore_n dX0_partsOwned_1 rfl (by decide) ?_
  refine r_iconst (v := 0) dX0_partsOwned_2 (by decide) ?_
  refine r_istore_n dX0_partsOwned_3 rfl (by decide) ?_
  exact PW.subL (lp (plR (vw S b) + 1) 0 0 rfl (by omega) (by omega)) (by repeat' first | exact True.intro | refine And.intro rfl ?_)
def jnR (V : Nat → Int32) (j k : Nat) : Nat → Nat → Int32
  | 0 => V
  | p + 1 => upd (jnR V j k p) (16 + 11 * k + (3 + p)) (if p = j then 60 else 0)
theorem jnR_0 {V : Nat → Int32} {j k : Nat} : jnR V j k 0 = V := rfl
theorem jnR_e {V : Nat → Int32} {j k : Nat} : ∀ n i, jnR V j k n i = if 16 + 11 * k + 3 ≤ i ∧ i < 16 + 11 * k + 3 + n then (if i = 16 + 11 * k + (3 + j) then 60 else 0) else V i
  | 0, i => by rw [if_neg (by omega)]; rfl
  | n + 1, i => by
    rw [jnR]
    unfold upd
    rw [jnR_e n i]
    (repeat' split) <;> first | rfl | (exfalso; omega)
theorem jnR_pl {W : Nat → Int32} {j k : Nat} {kd : Int32} (hk : k < 8) (hj : j < 8) (h6 : W 6 = nI k) : jnR (upd (upd (upd (upd W 6 (nI (k + 1))) (16 + 11 * k + 0) kd) (16 + 11 * k + 1) (nI j)) (16 + 11 * k + 2) 0) j k 8 = plyNew W k j kd := by
  funext i
  rw [jnR_e]
  unfold plyNew upd
  rw [h6, nI_1]
  (repeat' split) <;> first | rfl | (exfalso; omega)
set_option maxRecDepth 20000 in
set_option maxHeartbeats 1000000 in
theorem s_X0_join (g : pG) {S : pS} {b : Nat} (hC : Co S b) {k : Nat} (hk : k < 8) (h6 : vw S b 6 = nI k) (j : Nat) (hjj : j < 8) (kd : Int32) : MS g mX0_join 3 0 0 [.ref b, .int kd, .int (nI j)] (S) (eI (fun x S1 => x = nI k ∧ fr (frl b [0, 3, 4, 5, 6]) S S1 ∧ vw S1 b = plyNew (vw S b) k j kd)) := by
  refine MS.of pn_X0 (Nat.le_of_ble_eq_true rfl) ?_
  refine r_aload_n dX0_join_0 rfl rfl ?_
  refine r_getI dX0_join_1 (ci := 0) (kf := 6) hC.2.1 (Co_lt hC) (by decide) (by decide) rfl fl_X0_52 (Or.inl rfl) ?_
  rw [show S.2.2.2 b 6 = nI k from h6]
  refine r_bipush (v := 8) dX0_join_4 (by decide) ?_
  refine r_icmp_ltN (k) (8) (tgt := 11) dX0_join_6 (by decide) (by omega) (by omega) (fun c_6 => ?_) (fun c_6 => ?_)
  · (try dsimp only [Gs_M] at c_6)
    refine r_aload_n dX0_join_11 rfl rfl ?_
    refine r_getI dX0_join_12 (ci := 0) (kf := 6) hC.2.1 (Co_lt hC) (by decide) (by decide) rfl fl_X0_52 (Or.inl rfl) ?_
    rw [show S.2.2.2 b 6 = nI k from h6]
    refine r_istore_n dX0_join_15 rfl (by decide) ?_
    refine r_aload_n dX0_join_16 rfl rfl ?_
    refine r_dup dX0_join_17 rfl ?_
    refine r_getI dX0_join_18 (ci := 0) (kf := 6) hC.2.1 (Co_lt hC) (by decide) (by decide) rfl fl_X0_52 (Or.inl rfl) ?_
    rw [show S.2.2.2 b 6 = nI k from h6]
    refine r_iconst (v := 1) dX0_join_21 (by decide) ?_
    refine r_iaddN (k) (1) dX0_join_22 ?_
    refine r_putI dX0_join_23 (ci := 0) (kf := 6) hC.2.1 (Co_lt hC) (by decide) (by decide) rfl fl_X0_52 (Or.inl rfl) rfl rfl rfl ?_
    refine r_aload_n dX0_join_26 rfl rfl ?_
    refine r_getR (q := (b + 3)) dX0_join_27 (ci := 0) (kf := 2) hC.2.1 (Co_lt hC) (by decide) (by decide) rfl fl_X0_18 (Or.inl rfl) hC.2.2.2.2.2.1 ?_
    refine r_iload_n dX0_join_30 rfl rfl ?_
    refine r_iload_n dX0_join_31 rfl rfl ?_
    refine r_iast (j := k) dX0_join_32 hC.2.2.1.2.2.1 (Co_la3 hC) rfl (by omega) (by decide) ?_
    refine r_aload_n dX0_join_33 rfl rfl ?_
    refine r_getR (q := (b + 4)) dX0_join_34 (ci := 0) (kf := 3) hC.2.1 (Co_lt hC) (by decide) (by decide) rfl fl_X0_21 (Or.inl rfl) hC.2.2.2.2.2.2.1 ?_
    refine r_iload_n dX0_join_37 rfl rfl ?_
    refine r_iload_n dX0_join_38 rfl rfl ?_
    refine r_iast (j := k) dX0_join_39 hC.2.2.1.2.2.2.1 (Co_la4 hC) rfl (by omega) (by decide) ?_
    refine r_aload_n dX0_join_40 rfl rfl ?_
    refine r_getR (q := (b + 5)) dX0_join_41 (ci := 0) (kf := 4) hC.2.1 (Co_lt hC) (by decide) (by decide) rfl fl_X0_24 (Or.inl rfl) hC.2.2.2.2.2.2.2.1 ?_
    refine r_iload_n dX0_join_44 rfl rfl ?_
    refine r_iconst (v := 0) dX0_join_45 (by decide) ?_
    refine r_iast (j := k) dX0_join_46 hC.2.2.1.2.2.2.2.1 (Co_la5 hC) rfl (by omega) (by decide) ?_
    refine r_iconst (v := 0) dX0_join_47 (by decide) ?_
    refine r_istore dX0_join_48 (by decide) ?_
    have lp : ∀ (j_ : Nat) (p : Nat) (S1 : pS) (hf : fr (frl b [0, 3, 4, 5, 6]) S S1) (hv : vw S1 b = jnR (upd (upd (upd (upd (vw S b) 6 (nI (k + 1))) (16 + 11 * k + 0) kd) (16 + 11 * k + 1) (nI j)) (16 + 11 * k + 2) 0) j k p) (hp : p ≤ 8), 8 - p < j_ → PW g mX0_join (eN g S.1 3 0 0 (eI (fun x S1 => x = nI k ∧ fr (frl b [0, 3, 4, 5, 6]) S S1 ∧ vw S1 b = plyNew (vw S b) k j kd))) 50 [some (.ref b), some (.int kd), some (.int (nI j)), some (.int (nI k)), some (.int (nI p))] [] (S1) 0 0 := by
      intro j_
      induction j_ with
      | zero => intro p S1 hf hv hp hj; exact absurd hj (Nat.not_lt_zero _)
      | succ j_ ih =>
        intro p S1 hf hv hp hj
        have hC1 := hf.co hC
        refine r_iload dX0_join_50 rfl ?_
        refine r_bipush (v := 8) dX0_join_52 (by decide) ?_
        refine r_icmp_geN (p) (8) (tgt := 82) dX0_join_54 (by decide) (by omega) (by omega) (fun c_54 => ?_) (fun c_54 => ?_)
        · (try dsimp only [Gs_M] at c_54)
          refine r_iload_n dX0_join_82 rfl rfl ?_
          refine r_iret dX0_join_83 rfl (Nat.le_refl _) ?_
          (try dsimp only [Gs_M])
          obtain rfl : p = 8 := by omega
          exact ⟨_, rfl, rfl, hf, hv.trans (jnR_pl hk hjj h6)⟩
        · (try dsimp only [Gs_M] at c_54)
          refine r_aload_n dX0_join_57 rfl rfl ?_
          refine r_iload_n dX0_join_58 rfl rfl ?_
          refine r_iload dX0_join_59 rfl ?_
          refine r_iload dX0_join_61 rfl ?_
          refine r_iload_n dX0_join_63 rfl rfl ?_
          refine r_icmp_neN (p) (j) (tgt := 72) dX0_join_64 (by decide) (by omega) (by omega) (fun c_64 => ?_) (fun c_64 => ?_)
          · (try dsimp only [Gs_M] at c_64)
            refine r_iconst (v := 0) dX0_join_72 (by decide) ?_
            refine r_callV_dV (ci := 0) dX0_join_73 (s_X0_learnTo g hC1 (k) (p) (by omega) (by omega) _) mf_X0_learnTo mi_X0_learnTo se_X0_X0_X0_learnTo ml_X0_61 rfl rfl (Co_lt hC1) hC1.2.1 (by decide) rfl (Nat.le_of_ble_eq_true rfl) ⟨(Nat.le_of_ble_eq_true rfl), (Nat.le_of_ble_eq_true rfl)⟩ ⟨(Nat.le_of_ble_eq_true rfl), (Nat.le_of_ble_eq_true rfl)⟩ ?_
            refine r_iinc (v := nI (p + 1)) dX0_join_76 rfl (nI_1 _) (by decide) ?_
            refine r_goto (tgt := 50) dX0_join_79 (by decide) ?_
            exact PW.subL (ih (p + 1) _ (hf.set (frl_in (by decide))) (by rw [vs_n hk (by omega), jnR, ← hv]; congr 1; rw [if_neg c_64]; rfl) (by omega) (by omega)) (by repeat' first | exact True.intro | refine And.intro rfl ?_)
          · (try dsimp only [Gs_M] at c_64)
            refine r_bipush (v := 60) dX0_join_67 (by decide) ?_
            refine r_goto (tgt := 73) dX0_join_69 (by decide) ?_
            refine r_callV_dV (ci := 0) dX0_join_73 (s_X0_learnTo g hC1 (k) (p) (by omega) (by omega) _) mf_X0_learnTo mi_X0_learnTo se_X0_X0_X0_learnTo ml_X0_61 rfl rfl (Co_lt hC1) hC1.2.1 (by decide) rfl (Nat.le_of_ble_eq_true rfl) ⟨(Nat.le_of_ble_eq_true rfl), (Nat.le_of_ble_eq_true rfl)⟩ ⟨(Nat.le_of_ble_eq_true rfl), (Nat.le_of_ble_eq_true rfl)⟩ ?_
            refine r_iinc (v := nI (p + 1)) dX0_join_76 rfl (nI_1 _) (by decide) ?_
            refine r_goto (tgt := 50) dX0_join_79 (by decide) ?_
            exact PW.subL (ih (p + 1) _ (hf.set (frl_in (by decide))) (by rw [vs_n hk (by omega), jnR, ← hv]; congr 1; rw [if_pos c_64]; rfl) (by omega) (by omega)) (by repeat' first | exact True.intro | refine And.intro rfl ?_)
    refine PW.subL (lp 9 0 _ ((((fr.rf.set (frl_0 (by decide))).set (frl_in (by decide))).set (frl_in (by decide))).set (frl_in (by decide))) ?_ (by omega) (by omega)) (by repeat' first | exact True.intro | refine And.intro rfl ?_)
    rw [vs_i hk, vs_o hk, vs_k hk, vs_6]
    exact jnR_0.symm
  · (try dsimp only [Gs_M] at c_6)
    exact absurd c_6 (by omega)
theorem r_acp {g : pG} {M : pM} {E : pE} {pc : Nat} {L : pL} {st : List Value} {S : pS} {k n : Nat} {idx q0 q1 n0 n1 N : Nat} {x : Int32} (d : decode M.2.1 pc = .ok (.invokestatic idx, 3)) (hl : Cond.methodLink M.1.cls idx arraycopyName ∈ gT)
    (hs0 : S.2.1 q0 = .inl (0, n0)) (hs1 : S.2.1 q1 = .inl (0, n1)) (h0 : q0 < S.1) (h1 : q1 < S.1) (hx : x = nI N) (hn0 : N ≤ n0) (hn1 : N ≤ n1) (hN31 : N ≤ 2147483647) (hsum : (st.map fun v => v.category).sum ≤ 8) (hf : 1 ≤ E.1.frames) (hlo : 8 + (nativeFrameWords "java/lang/System" "arraycopy" 5 + 11) ≤ E.1.locals)
    (kk : PW g M E (pc + 3) L st (mArr S q1 (va_cpy (S.2.2.2 q0) (S.2.2.2 q1) 0 0 N)) k n) : PW g M E pc L (.int x :: .int 0 :: .ref q1 :: .int 0 :: .ref q0 :: st) S k n :=
  r_acopy d hl mn_acopy mt_acopy in_sys hs0 hs1 h0 h1 hx hn0 hn1 hN31 hsum hf hlo kk
theorem r_acpT {g : pG} {M : pM} {E : pE} {pc : Nat} {L : pL} {st : List Value} {S : pS} {k n : Nat} {idx k0 q1 n1 N : Nat} {x : Int32} (d : decode M.2.1 pc = .ok (.invokestatic idx, 3)) (hl : Cond.methodLink M.1.cls idx arraycopyName ∈ gT)
    (hk : k0 < 3) (hs1 : S.2.1 q1 = .inl (0, n1)) (h1 : q1 < S.1) (hx : x = nI N) (hn0 : N ≤ (kL k0).length) (hn1 : N ≤ n1) (hN31 : N ≤ 2147483647) (hsum : (st.map fun v => v.category).sum ≤ 8) (hf : 1 ≤ E.1.frames) (hlo : 8 + (nativeFrameWords "java/lang/System" "arraycopy" 5 + 11) ≤ E.1.locals)
    (kk : PW g M E (pc + 3) L st (mArr S q1 (va_cpy (kF k0) (S.2.2.2 q1) 0 0 N)) k n) : PW g M E pc L (.int x :: .int 0 :: .ref q1 :: .int 0 :: .ref (2000 + k0) :: st) S k n :=
  r_acopyT d hl mn_acopy mt_acopy in_sys hk hs1 h1 hx hn0 hn1 hN31 hsum hf hlo kk
theorem vw_copy {S S1 : pS} {b a : Nat} (hf : ∀ f, f = 6 ∨ f = 7 ∨ f = 8 ∨ f = 9 → S1.2.2.2 b f = S.2.2.2 a f) (h1 : ∀ j, j < 4 → S1.2.2.2 (b + 1) j = S.2.2.2 (a + 1) j) (h2 : ∀ j, j < 8 → S1.2.2.2 (b + 2) j = S.2.2.2 (a + 2) j) (h3 : ∀ j, j < 8 → S1.2.2.2 (b + 3) j = S.2.2.2 (a + 3) j) (h4 : ∀ j, j < 8 → S1.2.2.2 (b + 4) j = S.2.2.2 (a + 4) j) (h5 : ∀ j, j < 8 → S1.2.2.2 (b + 5) j = S.2.2.2 (a + 5) j) (h6 : ∀ j, j < 64 → S1.2.2.2 (b + 6) j = S.2.2.2 (a + 6) j) : vw S1 b = vw S a := by
  funext i
  unfold vw
  by_cases hi : i < 104
  · rw [if_pos hi, if_pos hi]
    have H : ∀ q : Fin 104, (loV q.1).1 = 0 ∧ ((loV q.1).2 = 6 ∨ (loV q.1).2 = 7 ∨ (loV q.1).2 = 8 ∨ (loV q.1).2 = 9) ∨ (loV q.1).1 = 1 ∧ (loV q.1).2 < 4 ∨ (loV q.1).1 = 2 ∧ (loV q.1).2 < 8 ∨ (loV q.1).1 = 3 ∧ (loV q.1).2 < 8 ∨ (loV q.1).1 = 4 ∧ (loV q.1).2 < 8 ∨ (loV q.1).1 = 5 ∧ (loV q.1).2 < 8 ∨ (loV q.1).1 = 6 ∧ (loV q.1).2 < 64 := by decide +kernel
    rcases H ⟨i, hi⟩ with ⟨e, f⟩ | ⟨e, f⟩ | ⟨e, f⟩ | ⟨e, f⟩ | ⟨e, f⟩ | ⟨e, f⟩ | ⟨e, f⟩ <;> simp only at e f <;> rw [e]
    · exact hf _ f
    · exact h1 _ f
    · exact h2 _ f
    · exact h3 _ f
    · exact h4 _ f
    · exact h5 _ f
    · exact h6 _ f
  · rw [if_neg hi, if_neg hi]
theorem cpy0 {f g : Nat → Int32} {n j : Nat} (h : j < n) : va_cpy f g 0 0 n j = f j := by rw [pk_cpy_in (Nat.zero_le _) (by omega), Nat.zero_add, Nat.sub_zero]
set_option maxRecDepth 20000 in
set_option maxHeartbeats 1000000 in
theorem s_X0_copyFrom (g : pG) {S : pS} {a b : Nat} (hC : Co S b) (hA : Co S a) (hd : a + 9 ≤ b ∨ b + 9 ≤ a) : MS g mX0_copyFrom 1 0 0 [.ref b, .ref a] (S) (eV (fun S1 => fr (frl b [0, 1, 2, 3, 4, 5, 6]) S S1 ∧ vw S1 b = vw S a)) := by
  refine MS.of pn_X0 (Nat.le_of_ble_eq_true rfl) ?_
  refine r_aload_n dX0_copyFrom_0 rfl rfl ?_
  refine r_getR (q := (a + 1)) dX0_copyFrom_1 (ci := 0) (kf := 0) hA.2.1 (Co_lt hA) (by decide) (by decide) rfl fl_X0_9 (Or.inl rfl) hA.2.2.2.1 ?_
  refine r_iconst (v := 0) dX0_copyFrom_4 (by decide) ?_
  refine r_aload_n dX0_copyFrom_5 rfl rfl ?_
  refine r_getR (q := (b + 1)) dX0_copyFrom_6 (ci := 0) (kf := 0) hC.2.1 (Co_lt hC) (by decide) (by decide) rfl fl_X0_9 (Or.inl rfl) hC.2.2.2.1 ?_
  refine r_iconst (v := 0) dX0_copyFrom_9 (by decide) ?_
  refine r_iconst (v := 4) dX0_copyFrom_10 (by decide) ?_
  refine r_acp (N := 4) dX0_copyFrom_11 ml_X0_46 hA.2.2.1.1 hC.2.2.1.1 (Co_la1 hA) (Co_la1 hC) rfl (by decide) (by decide) (by decide) (Nat.le_of_ble_eq_true rfl) (by exact (Nat.le_of_ble_eq_true rfl)) (by exact (Nat.le_of_ble_eq_true rfl)) ?_
  refine r_aload_n dX0_copyFrom_14 rfl rfl ?_
  refine r_getR (q := (a + 2)) dX0_copyFrom_15 (ci := 0) (kf := 1) hA.2.1 (Co_lt hA) (by decide) (by decide) rfl fl_X0_15 (Or.inl rfl) hA.2.2.2.2.1 ?_
  refine r_iconst (v := 0) dX0_copyFrom_18 (by decide) ?_
  refine r_aload_n dX0_copyFrom_19 rfl rfl ?_
  refine r_getR (q := (b + 2)) dX0_copyFrom_20 (ci := 0) (kf := 1) hC.2.1 (Co_lt hC) (by decide) (by decide) rfl fl_X0_15 (Or.inl rfl) hC.2.2.2.2.1 ?_
  refine r_iconst (v := 0) dX0_copyFrom_23 (by decide) ?_
  refine r_bipush (v := 8) dX0_copyFrom_24 (by decide) ?_
  refine r_acp (N := 8) dX0_copyFrom_26 ml_X0_46 hA.2.2.1.2.1 hC.2.2.1.2.1 (Co_la2 hA) (Co_la2 hC) rfl (by decide) (by decide) (by decide) (Nat.le_of_ble_eq_true rfl) (by exact (Nat.le_of_ble_eq_true rfl)) (by exact (Nat.le_of_ble_eq_true rfl)) ?_
  refine r_aload_n dX0_copyFrom_29 rfl rfl ?_
  refine r_getR (q := (a + 3)) dX0_copyFrom_30 (ci := 0) (kf := 2) hA.2.1 (Co_lt hA) (by decide) (by decide) rfl fl_X0_18 (Or.inl rfl) hA.2.2.2.2.2.1 ?_
  refine r_iconst (v := 0) dX0_copyFrom_33 (by decide) ?_
  refine r_aload_n dX0_copyFrom_34 rfl rfl ?_
  refine r_getR (q := (b + 3)) dX0_copyFrom_35 (ci := 0) (kf := 2) hC.2.1 (Co_lt hC) (by decide) (by decide) rfl fl_X0_18 (Or.inl rfl) hC.2.2.2.2.2.1 ?_
  refine r_iconst (v := 0) dX0_copyFrom_38 (by decide) ?_
  refine r_bipush (v := 8) dX0_copyFrom_39 (by decide) ?_
  refine r_acp (N := 8) dX0_copyFrom_41 ml_X0_46 hA.2.2.1.2.2.1 hC.2.2.1.2.2.1 (Co_la3 hA) (Co_la3 hC) rfl (by decide) (by decide) (by decide) (Nat.le_of_ble_eq_true rfl) (by exact (Nat.le_of_ble_eq_true rfl)) (by exact (Nat.le_of_ble_eq_true rfl)) ?_
  refine r_aload_n dX0_copyFrom_44 rfl rfl ?_
  refine r_getR (q := (a + 4)) dX0_copyFrom_45 (ci := 0) (kf := 3) hA.2.1 (Co_lt hA) (by decide) (by decide) rfl fl_X0_21 (Or.inl rfl) hA.2.2.2.2.2.2.1 ?_
  refine r_iconst (v := 0) dX0_copyFrom_48 (by decide) ?_
  refine r_aload_n dX0_copyFrom_49 rfl rfl ?_
  refine r_getR (q := (b + 4)) dX0_copyFrom_50 (ci := 0) (kf := 3) hC.2.1 (Co_lt hC) (by decide) (by decide) rfl fl_X0_21 (Or.inl rfl) hC.2.2.2.2.2.2.1 ?_
  refine r_iconst (v := 0) dX0_copyFrom_53 (by decide) ?_
  refine r_bipush (v := 8) dX0_copyFrom_54 (by decide) ?_
  refine r_acp (N := 8) dX0_copyFrom_56 ml_X0_46 hA.2.2.1.2.2.2.1 hC.2.2.1.2.2.2.1 (Co_la4 hA) (Co_la4 hC) rfl (by decide) (by decide) (by decide) (Nat.le_of_ble_eq_true rfl) (by exact (Nat.le_of_ble_eq_true rfl)) (by exact (Nat.le_of_ble_eq_true rfl)) ?_
  refine r_aload_n dX0_copyFrom_59 rfl rfl ?_
  refine r_getR (q := (a + 5)) dX0_copyFrom_60 (ci := 0) (kf := 4) hA.2.1 (Co_lt hA) (by decide) (by decide) rfl fl_X0_24 (Or.inl rfl) hA.2.2.2.2.2.2.2.1 ?_
  refine r_iconst (v := 0) dX0_copyFrom_63 (by decide) ?_
  refine r_aload_n dX0_copyFrom_64 rfl rfl ?_
  refine r_getR (q := (b + 5)) dX0_copyFrom_65 (ci := 0) (kf := 4) hC.2.1 (Co_lt hC) (by decide) (by decide) rfl fl_X0_24 (Or.inl rfl) hC.2.2.2.2.2.2.2.1 ?_
  refine r_iconst (v := 0) dX0_copyFrom_68 (by decide) ?_
  refine r_bipush (v := 8) dX0_copyFrom_69 (by decide) ?_
  refine r_acp (N := 8) dX0_copyFrom_71 ml_X0_46 hA.2.2.1.2.2.2.2.1 hC.2.2.1.2.2.2.2.1 (Co_la5 hA) (Co_la5 hC) rfl (by decide) (by decide) (by decide) (Nat.le_of_ble_eq_true rfl) (by exact (Nat.le_of_ble_eq_true rfl)) (by exact (Nat.le_of_ble_eq_true rfl)) ?_
  refine r_aload_n dX0_copyFrom_74 rfl rfl ?_
  refine r_getR (q := (a + 6)) dX0_copyFrom_75 (ci := 0) (kf := 5) hA.2.1 (Co_lt hA) (by decide) (by decide) rfl fl_X0_27 (Or.inl rfl) hA.2.2.2.2.2.2.2.2.1 ?_
  refine r_iconst (v := 0) dX0_copyFrom_78 (by decide) ?_
  refine r_aload_n dX0_copyFrom_79 rfl rfl ?_
  refine r_getR (q := (b + 6)) dX0_copyFrom_80 (ci := 0) (kf := 5) hC.2.1 (Co_lt hC) (by decide) (by decide) rfl fl_X0_27 (Or.inl rfl) hC.2.2.2.2.2.2.2.2.1 ?_
  refine r_iconst (v := 0) dX0_copyFrom_83 (by decide) ?_
  refine r_bipush (v := 64) dX0_copyFrom_84 (by decide) ?_
  refine r_acp (N := 64) dX0_copyFrom_86 ml_X0_46 hA.2.2.1.2.2.2.2.2.1 hC.2.2.1.2.2.2.2.2.1 (Co_la6 hA) (Co_la6 hC) rfl (by decide) (by decide) (by decide) (Nat.le_of_ble_eq_true rfl) (by exact (Nat.le_of_ble_eq_true rfl)) (by exact (Nat.le_of_ble_eq_true rfl)) ?_
  refine r_aload_n dX0_copyFrom_89 rfl rfl ?_
  refine r_aload_n dX0_copyFrom_90 rfl rfl ?_
  refine r_getI dX0_copyFrom_91 (ci := 0) (kf := 6) hA.2.1 (Co_lt hA) (by decide) (by decide) rfl fl_X0_52 (Or.inl rfl) ?_
  refine r_putI dX0_copyFrom_94 (ci := 0) (kf := 6) hC.2.1 (Co_lt hC) (by decide) (by decide) rfl fl_X0_52 (Or.inl rfl) rfl rfl rfl ?_
  refine r_aload_n dX0_copyFrom_97 rfl rfl ?_
  refine r_aload_n dX0_copyFrom_98 rfl rfl ?_
  refine r_getI dX0_copyFrom_99 (ci := 0) (kf := 7) hA.2.1 (Co_lt hA) (by decide) (by decide) rfl fl_X0_55 (Or.inl rfl) ?_
  refine r_putI dX0_copyFrom_102 (ci := 0) (kf := 7) hC.2.1 (Co_lt hC) (by decide) (by decide) rfl fl_X0_55 (Or.inl rfl) rfl rfl rfl ?_
  refine r_aload_n dX0_copyFrom_105 rfl rfl ?_
  refine r_aload_n dX0_copyFrom_106 rfl rfl ?_
  refine r_getI dX0_copyFrom_107 (ci := 0) (kf := 8) hA.2.1 (Co_lt hA) (by decide) (by decide) rfl fl_X0_58 (Or.inl rfl) ?_
  refine r_putI dX0_copyFrom_110 (ci := 0) (kf := 8) hC.2.1 (Co_lt hC) (by decide) (by decide) rfl fl_X0_58 (Or.inl rfl) rfl rfl rfl ?_
  refine r_aload_n dX0_copyFrom_113 rfl rfl ?_
  refine r_aload_n dX0_copyFrom_114 rfl rfl ?_
  refine r_getI dX0_copyFrom_115 (ci := 0) (kf := 9) hA.2.1 (Co_lt hA) (by decide) (by decide) rfl fl_X0_30 (Or.inl rfl) ?_
  refine r_putI dX0_copyFrom_118 (ci := 0) (kf := 9) hC.2.1 (Co_lt hC) (by decide) (by decide) rfl fl_X0_30 (Or.inl rfl) rfl rfl rfl ?_
  refine r_vret dX0_copyFrom_121 rfl (Nat.le_refl _) ?_
  (try dsimp only [Gs_M])
  refine ⟨rfl, (((((((((fr.rf.arr (frl_in (by decide))).arr (frl_in (by decide))).arr (frl_in (by decide))).arr (frl_in (by decide))).arr (frl_in (by decide))).arr (frl_in (by decide))).set (frl_0 (by decide))).set (frl_0 (by decide))).set (frl_0 (by decide))).set (frl_0 (by decide)), vw_copy ?_ ?_ ?_ ?_ ?_ ?_ ?_⟩
  · rintro f (rfl | rfl | rfl | rfl) <;> simp (disch := omega) only [mSet_at, mSet_ne, mArr_at, mArr_ne, pk_us, pk_un]
  · intro j hj
    simp (disch := omega) only [mSet_at, mSet_ne, mArr_at, mArr_ne, cpy0]
  · intro j hj
    simp (disch := omega) only [mSet_at, mSet_ne, mArr_at, mArr_ne, cpy0]
  · intro j hj
    simp (disch := omega) only [mSet_at, mSet_ne, mArr_at, mArr_ne, cpy0]
  · intro j hj
    simp (disch := omega) only [mSet_at, mSet_ne, mArr_at, mArr_ne, cpy0]
  · intro j hj
    simp (disch := omega) only [mSet_at, mSet_ne, mArr_at, mArr_ne, cpy0]
  · intro j hj
    simp (disch := omega) only [mSet_at, mSet_ne, mArr_at, mArr_ne, cpy0]
def wsC (S : pS) (b : Nat) : Nat → pS
  | 0 => S
  | p + 1 => mSet (wsC S b p) (b + 2) p 3
def begC (W : Nat → Int32) : Nat → Int32 := upd (upd (upd (wtR (upd (upd (upd (upd W 1 3) 2 4) 3 10) 4 20) 8) 6 0) 0 0) 7 0
theorem begC_e {W : Nat → Int32} : begC W = upd (upd (upd (wtR (upd (upd (upd (upd W 1 3) 2 4) 3 10) 4 20) 8) 6 0) 0 0) 7 0 := rfl
theorem wtR_0 {W : Nat → Int32} : wtR W 0 = W := rfl
theorem vw_laws {S : pS} {b : Nat} {f : Nat → Int32} : vw (mArr S (b + 1) (va_cpy (kF 0) f 0 0 4)) b = upd (upd (upd (upd (vw S b) 1 3) 2 4) 3 10) 4 20 := by
  funext i
  by_cases h1 : 1 ≤ i ∧ i < 5
  · obtain ⟨j, hj, rfl⟩ : ∃ j, j < 4 ∧ i = 1 + j := ⟨i - 1, by omega, by omega⟩
    rw [vw_l hj, mArr_at, cpy0 hj]
    rcases (by omega : j = 0 ∨ j = 1 ∨ j = 2 ∨ j = 3) with rfl | rfl | rfl | rfl <;> rfl
  · rw [pk_un (by omega), pk_un (by omega), pk_un (by omega), pk_un (by omega)]
    by_cases hi : i < 104
    · have H : ∀ q : Fin 104, ¬ (1 ≤ q.1 ∧ q.1 < 5) → (loV q.1).1 ≠ 1 := by decide +kernel
      have h := H ⟨i, hi⟩ h1
      simp only at h
      unfold vw
      rw [if_pos hi, if_pos hi, mArr_ne (by omega)]
    · unfold vw
      rw [if_neg hi, if_neg hi]
set_option maxRecDepth 20000 in
set_option maxHeartbeats 1000000 in
theorem s_X0_becomeAsAtFirst (g : pG) {S : pS} {b : Nat} (hC : Co S b) : MS g mX0_becomeAsAtFirst 1 0 0 [.ref b] (S) (eV (fun S1 => fr (frl b [0, 1, 2]) S S1 ∧ vw S1 b = begC (vw S b))) := by
  refine MS.of pn_X0 (Nat.le_of_ble_eq_true rfl) ?_
  refine r_getsN (k0 := 0) (by decide) dX0_becomeAsAtFirst_0 (by decide) ?_
  refine r_iconst (v := 0) dX0_becomeAsAtFirst_3 (by decide) ?_
  refine r_aload_n dX0_becomeAsAtFirst_4 rfl rfl ?_
  refine r_getR (q := (b + 1)) dX0_becomeAsAtFirst_5 (ci := 0) (kf := 0) hC.2.1 (Co_lt hC) (by decide) (by decide) rfl fl_X0_9 (Or.inl rfl) hC.2.2.2.1 ?_
  refine r_iconst (v := 0) dX0_becomeAsAtFirst_8 (by decide) ?_
  refine r_iconst (v := 4) dX0_becomeAsAtFirst_9 (by decide) ?_
  refine r_acpT (k0 := 0) (N := 4) dX0_becomeAsAtFirst_10 ml_X0_46 (by decide) hC.2.2.1.1 (Co_la1 hC) rfl (by decide) (by decide) (by decide) (Nat.le_of_ble_eq_true rfl) (by exact (Nat.le_of_ble_eq_true rfl)) (by exact (Nat.le_of_ble_eq_true rfl)) ?_
  refine r_iconst (v := 0) dX0_becomeAsAtFirst_13 (by decide) ?_
  refine r_istore_n dX0_becomeAsAtFirst_14 rfl (by decide) ?_
  have lp : ∀ (j_ : Nat) (p : Nat) (S1 : pS) (hf : fr (frl b [0, 1, 2]) S S1) (hv : vw S1 b = wtR (upd (upd (upd (upd (vw S b) 1 3) 2 4) 3 10) 4 20) p) (hp : p ≤ 8), 8 - p < j_ → PW g mX0_becomeAsAtFirst (eN g S.1 1 0 0 (eV (fun S1 => fr (frl b [0, 1, 2]) S S1 ∧ vw S1 b = begC (vw S b)))) 15 [some (.ref b), some (.int (nI p))] [] (S1) 0 0 := by
    intro j_
    induction j_ with
    | zero => intro p S1 hf hv hp hj; exact absurd hj (Nat.not_lt_zero _)
    | succ j_ ih =>
      intro p S1 hf hv hp hj
      have hC1 := hf.co hC
      refine r_iload_n dX0_becomeAsAtFirst_15 rfl rfl ?_
      refine r_bipush (v := 8) dX0_becomeAsAtFirst_16 (by decide) ?_
      refine r_icmp_geN (p) (8) (tgt := 34) dX0_becomeAsAtFirst_18 (by decide) (by omega) (by omega) (fun c_18 => ?_) (fun c_18 => ?_)
      · (try dsimp only [Gs_M] at c_18)
        refine r_aload_n dX0_becomeAsAtFirst_34 rfl rfl ?_
        refine r_iconst (v := 0) dX0_becomeAsAtFirst_35 (by decide) ?_
        refine r_putI dX0_becomeAsAtFirst_36 (ci := 0) (kf := 6) hC1.2.1 (Co_lt hC1) (by decide) (by decide) rfl fl_X0_52 (Or.inl rfl) rfl rfl rfl ?_
        refine r_aload_n dX0_becomeAsAtFirst_39 rfl rfl ?_
        refine r_iconst (v := 0) dX0_becomeAsAtFirst_40 (by decide) ?_
        refine r_putI dX0_becomeAsAtFirst_41 (ci := 0) (kf := 7) hC1.2.1 (Co_lt hC1) (by decide) (by decide) rfl fl_X0_55 (Or.inl rfl) rfl rfl rfl ?_
        refine r_aload_n dX0_becomeAsAtFirst_44 rfl rfl ?_
        refine r_iconst (v := 0) dX0_becomeAsAtFirst_45 (by decide) ?_
        refine r_putI dX0_becomeAsAtFirst_46 (ci := 0) (kf := 8) hC1.2.1 (Co_lt hC1) (by decide) (by decide) rfl fl_X0_58 (Or.inl rfl) rfl rfl rfl ?_
        refine r_vret dX0_becomeAsAtFirst_49 rfl (Nat.le_refl _) ?_
        (try dsimp only [Gs_M])
        obtain rfl : p = 8 := by omega
        refine ⟨rfl, ((hf.set (frl_0 (by decide))).set (frl_0 (by decide))).set (frl_0 (by decide)), ?_⟩
        rw [vs_7, vs_0, vs_6, hv]
        exact begC_e.symm
      · (try dsimp only [Gs_M] at c_18)
        refine r_aload_n dX0_becomeAsAtFirst_21 rfl rfl ?_
        refine r_getR (q := (b + 2)) dX0_becomeAsAtFirst_22 (ci := 0) (kf := 1) hC1.2.1 (Co_lt hC1) (by decide) (by decide) rfl fl_X0_15 (Or.inl rfl) hC1.2.2.2.2.1 ?_
        refine r_iload_n dX0_becomeAsAtFirst_25 rfl rfl ?_
        refine r_iconst (v := 3) dX0_becomeAsAtFirst_26 (by decide) ?_
        refine r_iast (j := p) dX0_becomeAsAtFirst_27 hC1.2.2.1.2.1 (Co_la2 hC1) rfl (by omega) (by decide) ?_
        refine r_iinc (v := nI (p + 1)) dX0_becomeAsAtFirst_28 rfl (nI_1 _) (by decide) ?_
        refine r_goto (tgt := 15) dX0_becomeAsAtFirst_31 (by decide) ?_
        exact PW.subL (ih (p + 1) _ (hf.set (frl_in (by decide))) (by rw [vs_w (by omega), wtR, ← hv]) (by omega) (by omega)) (by repeat' first | exact True.intro | refine And.intro rfl ?_)
  exact PW.subL (lp 9 0 _ (fr.rf.arr (frl_in (by decide))) (vw_laws.trans wtR_0.symm) (by omega) (by omega)) (by repeat' first | exact True.intro | refine And.intro rfl ?_)
