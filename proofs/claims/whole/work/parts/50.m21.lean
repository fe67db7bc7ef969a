/-! ===== longs ===== -/
def nL (n : Nat) : Int64 := Int64.ofNat n
theorem nL_toInt {n : Nat} (h : n < 2 ^ 63) : (nL n).toInt = (n : Int) := Int64.toInt_ofNat_of_lt h
theorem nL_of {x : Int64} {n : Nat} (h : n < 2 ^ 63) (e : x.toInt = (n : Int)) : x = nL n := Int64.toInt_inj.mp (by rw [e, nL_toInt h])
theorem nL_i2l {n : Nat} (h : n < 2 ^ 31) : (nI n).toInt64 = nL n := nL_of (by omega) (by rw [Int32.toInt_toInt64, nI_toInt h])
theorem nL_mul {a b : Nat} : nL a * nL b = nL (a * b) := (Int64.ofNat_mul a b).symm
theorem nL_div {a b : Nat} (ha : a < 2 ^ 63) (hb : b < 2 ^ 63) : nL a / nL b = nL (a / b) := by
  have hq : a / b ≤ a := Nat.div_le_self a b
  refine nL_of (by omega) ?_
  rw [Int64.toInt_div, nL_toInt ha, nL_toInt hb, Int.tdiv_eq_ediv_of_nonneg (by omega), ← Int.natCast_ediv]
  obtain ⟨q, hqe⟩ : ∃ q, q = a / b := ⟨_, rfl⟩
  rw [← hqe] at hq ⊢
  exact Int.bmod_eq_of_le (by omega) (by omega)
theorem nL_rem {a b : Nat} (ha : a < 2 ^ 63) (hb : b < 2 ^ 63) : nL a - nL a / nL b * nL b = nL (a % b) := by
  have hm : a / b * b ≤ a := Nat.div_mul_le_self a b
  have e : a % b = a - a / b * b := by have := Nat.div_add_mod a b; rw [Nat.mul_comm] at this; omega
  rw [nL_div ha hb, nL_mul, e]
  refine nL_of (by omega) ?_
  rw [Int64.toInt_sub, nL_toInt ha, nL_toInt (by omega)]
  have : ((a : Int) - ((a / b * b : Nat) : Int)) = ((a - a / b * b : Nat) : Int) := by omega
  rw [this]
  exact Int.bmod_eq_of_le (by omega) (by omega)
theorem nL_ne0 {n : Nat} (h0 : 0 < n) (h : n < 2 ^ 63) : ¬ nL n = 0 := fun z => by
  have e := congrArg Int64.toInt z
  rw [nL_toInt h] at e
  have : (0 : Int64).toInt = 0 := rfl
  omega
theorem nL_is0 {n : Nat} (h : n < 2 ^ 63) (z : nL n = 0) : n = 0 := by
  rcases Nat.eq_zero_or_pos n with e | e
  · exact e
  · exact absurd z (nL_ne0 e h)
def prtL (n d : Nat) (w : Int32) : Int64 := if w = 0 then nL (n / Nat.gcd n d) else nL (d / Nat.gcd n d)
def InvC (W : Nat → Int32) : Prop := ∃ c, c ≤ 99 ∧ W 4 = nI c
def hopeX (W : Nat → Int32) (n w : Int32) : Int64 := if (0 ≤ n ∧ n ≤ 99) ∧ 0 ≤ w ∧ w ≤ 1 then prtL (cl n * cl (W 4)) 100 w else -1
def binR (n : Nat) : Nat → Nat
  | 0 => 1
  | i + 1 => binR n i * (n - i) / (i + 1)
def topR (n k c : Nat) : Nat → Nat
  | 0 => binR n k
  | i + 1 => topR n k c i * (if i < k then c else 100 - c)
def oddsX (W : Nat → Int32) (n k w : Int32) : Int64 := if (0 ≤ n ∧ n ≤ 8) ∧ (0 ≤ k ∧ k ≤ n) ∧ 0 ≤ w ∧ w ≤ 1 then prtL (topR (cl n) (cl k) (cl (W 4)) (cl n)) (100 ^ cl n) w else -1
theorem binR_le {n i : Nat} (hn : n ≤ 8) (hi : i ≤ n) : binR n i ≤ 70 := by
  have H : ∀ q : Fin 9, ∀ j : Fin 9, j.1 ≤ q.1 → binR q.1 j.1 ≤ 70 := by decide +kernel
  exact H ⟨n, by omega⟩ ⟨i, by omega⟩ hi
theorem topR_le {n k c : Nat} (hn : n ≤ 8) (hk : k ≤ n) (hc : c ≤ 99) : ∀ i, topR n k c i ≤ 70 * 100 ^ i
  | 0 => by rw [topR]; exact Nat.le_trans (binR_le hn hk) (by omega)
  | i + 1 => by
    have h := topR_le hn hk hc i
    have h2 : (if i < k then c else 100 - c) ≤ 100 := by split <;> omega
    rw [topR, Nat.pow_succ, ← Nat.mul_assoc]
    exact Nat.mul_le_mul h h2
theorem pow100 {i : Nat} (h : i ≤ 8) : 100 ^ i ≤ 10000000000000000 := by
  have H : ∀ q : Fin 9, 100 ^ q.1 ≤ 10000000000000000 := by decide +kernel
  exact H ⟨i, by omega⟩
set_option maxRecDepth 20000 in
set_option maxHeartbeats 1000000 in
theorem s_X12_partOf_ (g : pG) (n d : Nat) (hn : n < 2 ^ 63) (hd : d < 2 ^ 63) (hd0 : 0 < d) (w : Int32) (S : pS) : MS g mX12_partOf_ 1 0 0 [.long (nL n), .long (nL d), .int w] (S) (dL (prtL n d w) S) := by
  refine MS.of pn_X12 (Nat.le_of_ble_eq_true rfl) ?_
  have lp : ∀ (j_ : Nat) (a b : Nat) (ha : a < 2 ^ 63) (hb : b < 2 ^ 63) (hg : Nat.gcd a b = Nat.gcd n d), b < j_ → PW g mX12_partOf_ (eN g S.1 1 0 0 (dL (prtL n d w) S)) 6 [some (.long (nL n)), none, some (.long (nL d)), none, some (.int w), some (.long (nL a)), none, some (.long (nL b)), none, none, none] [] (S) 0 0 := by
    intro j_
    induction j_ with
    | zero => intro a b ha hb hg hj; exact absurd hj (Nat.not_lt_zero _)
    | succ j_ ih =>
      intro a b ha hb hg hj
      refine r_lload dX12_partOf__6 rfl ?_
      refine r_lconst (v := 0) dX12_partOf__8 (by decide) ?_
      refine r_lcmp dX12_partOf__9 ?_
      refine r_if_eq (tgt := 31) dX12_partOf__10 (by decide) (fun c_10 => ?_) (fun c_10 => ?_)
      · (try dsimp only [Gs_M] at c_10)
        have z := nL_is0 hb ((lg_cmp_eq _ _).mp c_10)
        subst z
        rw [Nat.gcd_zero_right] at hg
        have ha0 : 0 < a := by rw [hg]; exact Nat.gcd_pos_of_pos_right n hd0
        have hne := nL_ne0 ha0 ha
        refine r_iload dX12_partOf__31 rfl ?_
        refine r_if_ne (tgt := 43) dX12_partOf__33 (by decide) (fun c_33 => ?_) (fun c_33 => ?_)
        · (try dsimp only [Gs_M] at c_33)
          refine r_lload_n dX12_partOf__43 rfl rfl ?_
          refine r_lload dX12_partOf__44 rfl ?_
          refine r_ldiv dX12_partOf__46 hne ?_
          refine r_lret dX12_partOf__47 rfl (Nat.le_refl _) ?_
          (try dsimp only [Gs_M])
          refine ⟨?_, rfl⟩
          rw [prtL, if_neg c_33, nL_div (by omega) ha, hg]
        · (try dsimp only [Gs_M] at c_33)
          refine r_lload_n dX12_partOf__36 rfl rfl ?_
          refine r_lload dX12_partOf__37 rfl ?_
          refine r_ldiv dX12_partOf__39 hne ?_
          refine r_goto (tgt := 47) dX12_partOf__40 (by decide) ?_
          refine r_lret dX12_partOf__47 rfl (Nat.le_refl _) ?_
          (try dsimp only [Gs_M])
          refine ⟨?_, rfl⟩
          rw [prtL, if_pos c_33, nL_div (by omega) ha, hg]
      · (try dsimp only [Gs_M] at c_10)
        have hb0 : 0 < b := by
          rcases Nat.eq_zero_or_pos b with e | e
          · exact absurd ((lg_cmp_eq _ _).mpr (by rw [e]; rfl)) c_10
          · exact e
        have hbn := nL_ne0 hb0 hb
        refine r_lload dX12_partOf__13 rfl ?_
        refine r_lload dX12_partOf__15 rfl ?_
        refine r_lrem dX12_partOf__17 hbn ?_
        rw [nL_rem ha hb]
        refine r_lstore dX12_partOf__18 (by decide) ?_
        refine r_lload dX12_partOf__20 rfl ?_
        refine r_lstore dX12_partOf__22 (by decide) ?_
        refine r_lload dX12_partOf__24 rfl ?_
        refine r_lstore dX12_partOf__26 (by decide) ?_
        refine r_goto (tgt := 6) dX12_partOf__28 (by decide) ?_
        exact PW.subL (ih b (a % b) hb (Nat.lt_trans (Nat.mod_lt _ hb0) hb) (by rw [← hg, Nat.gcd_comm a b, Nat.gcd_rec b a, Nat.gcd_comm]) (by have := Nat.mod_lt a hb0; omega)) (by repeat' first | exact True.intro | refine And.intro rfl ?_)
  refine r_lload_n dX12_partOf__0 rfl rfl ?_
  refine r_lstore dX12_partOf__1 (by decide) ?_
  refine r_lload_n dX12_partOf__3 rfl rfl ?_
  refine r_lstore dX12_partOf__4 (by decide) ?_
  exact PW.subL (lp (d + 1) n d hn hd rfl (by omega)) (by repeat' first | exact True.intro | refine And.intro rfl ?_)
set_option maxRecDepth 20000 in
set_option maxHeartbeats 1000000 in
theorem s_X12_hope (g : pG) {S : pS} (hS : sOk S) (hC : InvC (S.2.2.2 55)) (n w : Int32) : MS g mX12_hope 2 0 0 [.ref 54, .int n, .int w] (S) (dL (hopeX (S.2.2.2 55) n w) S) := by
  obtain ⟨M0, rfl⟩ := sOk_gs hS
  obtain ⟨c, hc, ec⟩ := hC
  have ec : M0 55 4 = nI c := ec
  refine MS.of pn_X12 (Nat.le_of_ble_eq_true rfl) ?_
  refine r_iload_n dX12_hope_0 rfl rfl ?_
  refine r_iconst (v := 0) dX12_hope_1 (by decide) ?_
  refine r_bipush (v := 99) dX12_hope_2 (by decide) ?_
  refine r_callS_dI dX12_hope_4 (s_X12_in1 g _ _ _ _) mf_X12_in1 mt_X12_in1 ml_X12_63 rfl rfl (Nat.le_of_ble_eq_true rfl) ⟨(Nat.le_of_ble_eq_true rfl), (Nat.le_of_ble_eq_true rfl)⟩ ⟨(Nat.le_of_ble_eq_true rfl), (Nat.le_of_ble_eq_true rfl)⟩ ?_
  refine r_if_eq (tgt := 39) dX12_hope_7 (by decide) (fun c_7 => ?_) (fun c_7 => ?_)
  · have c_7 := bI_0 c_7
    (try dsimp only [Gs_M] at c_7)
    refine r_ldc2 dX12_hope_39 kl_X12_236 ?_
    refine r_lret dX12_hope_42 rfl (Nat.le_refl _) ?_
    (try dsimp only [Gs_M])
    refine ⟨congrArg (fun y => some (Value.long y)) (Eq.symm ?_), rfl⟩
    rw [hopeX, if_neg (fun z => c_7 z.1)]
  · have c_7 := bI_n c_7
    (try dsimp only [Gs_M] at c_7)
    refine r_iload_n dX12_hope_10 rfl rfl ?_
    refine r_iconst (v := 0) dX12_hope_11 (by decide) ?_
    refine r_iconst (v := 1) dX12_hope_12 (by decide) ?_
    refine r_callS_dI dX12_hope_13 (s_X12_in1 g _ _ _ _) mf_X12_in1 mt_X12_in1 ml_X12_63 rfl rfl (Nat.le_of_ble_eq_true rfl) ⟨(Nat.le_of_ble_eq_true rfl), (Nat.le_of_ble_eq_true rfl)⟩ ⟨(Nat.le_of_ble_eq_true rfl), (Nat.le_of_ble_eq_true rfl)⟩ ?_
    refine r_if_eq (tgt := 39) dX12_hope_16 (by decide) (fun c_16 => ?_) (fun c_16 => ?_)
    · have c_16 := bI_0 c_16
      (try dsimp only [Gs_M] at c_16)
      refine r_ldc2 dX12_hope_39 kl_X12_236 ?_
      refine r_lret dX12_hope_42 rfl (Nat.le_refl _) ?_
      (try dsimp only [Gs_M])
      refine ⟨congrArg (fun y => some (Value.long y)) (Eq.symm ?_), rfl⟩
      rw [hopeX, if_neg (fun z => c_16 z.2)]
    · have c_16 := bI_n c_16
      (try dsimp only [Gs_M] at c_16)
      obtain ⟨jn, hjn, rfl⟩ := rng (x := n) 99 (by decide) c_7
      have hm : jn * c ≤ 99 * 99 := Nat.mul_le_mul hjn hc
      refine r_iload_n dX12_hope_19 rfl rfl ?_
      refine r_i2l dX12_hope_20 rfl ?_
      rw [nL_i2l (by omega)]
      refine r_aload_n dX12_hope_21 rfl rfl ?_
      refine r_getR (q := 55) dX12_hope_22 (ci := 12) (kf := 0) rfl (Nat.le_of_ble_eq_true rfl) (by decide) (by decide) rfl fl_X12_9 (Or.inl rfl) rfl ?_
      refine r_iconst (v := 4) dX12_hope_25 (by decide) ?_
      refine r_iald (j := 4) dX12_hope_26 rfl (Nat.le_of_ble_eq_true rfl) rfl (by decide) (by decide) ?_
      rw [show (Gs M0).2.2.2 55 4 = nI c from ec]
      refine r_i2l dX12_hope_27 rfl ?_
      rw [nL_i2l (by omega)]
      refine r_lmul dX12_hope_28 ?_
      rw [nL_mul]
      refine r_ldc2 dX12_hope_29 kl_X12_238 ?_
      refine r_iload_n dX12_hope_32 rfl rfl ?_
      refine r_callS_dL dX12_hope_33 (s_X12_partOf_ g (jn * c) 100 (by omega) (by decide) (by decide) w _) mf_X12_partOf_ mt_X12_partOf_ ml_X12_240 rfl rfl (Nat.le_of_ble_eq_true rfl) ⟨(Nat.le_of_ble_eq_true rfl), (Nat.le_of_ble_eq_true rfl)⟩ ⟨(Nat.le_of_ble_eq_true rfl), (Nat.le_of_ble_eq_true rfl)⟩ ?_
      refine r_goto (tgt := 42) dX12_hope_36 (by decide) ?_
      refine r_lret dX12_hope_42 rfl (Nat.le_refl _) ?_
      (try dsimp only [Gs_M])
      refine ⟨congrArg (fun y => some (Value.long y)) (Eq.symm ?_), rfl⟩
      rw [hopeX, if_pos ⟨c_7, c_16⟩, cl_nI (by omega), ec, cl_nI (by omega)]
set_option maxRecDepth 20000 in
set_option maxHeartbeats 1000000 in
theorem s_X12_odds (g : pG) {S : pS} (hS : sOk S) (hC : InvC (S.2.2.2 55)) (n k w : Int32) : MS g mX12_odds 2 0 0 [.ref 54, .int n, .int k, .int w] (S) (dL (oddsX (S.2.2.2 55) n k w) S) := by
  obtain ⟨M0, rfl⟩ := sOk_gs hS
  obtain ⟨c, hc, ec⟩ := hC
  have ec : M0 55 4 = nI c := ec
  refine MS.of pn_X12 (Nat.le_of_ble_eq_true rfl) ?_
  refine r_iload_n dX12_odds_0 rfl rfl ?_
  refine r_iconst (v := 0) dX12_odds_1 (by decide) ?_
  refine r_bipush (v := 8) dX12_odds_2 (by decide) ?_
  refine r_callS_dI dX12_odds_4 (s_X12_in1 g _ _ _ _) mf_X12_in1 mt_X12_in1 ml_X12_63 rfl rfl (Nat.le_of_ble_eq_true rfl) ⟨(Nat.le_of_ble_eq_true rfl), (Nat.le_of_ble_eq_true rfl)⟩ ⟨(Nat.le_of_ble_eq_true rfl), (Nat.le_of_ble_eq_true rfl)⟩ ?_
  refine r_if_eq (tgt := 28) dX12_odds_7 (by decide) (fun c_7 => ?_) (fun c_7 => ?_)
  · have c_7 := bI_0 c_7
    (try dsimp only [Gs_M] at c_7)
    refine r_ldc2 dX12_odds_28 kl_X12_236 ?_
    refine r_lret dX12_odds_31 rfl (Nat.le_refl _) ?_
    (try dsimp only [Gs_M])
    refine ⟨congrArg (fun y => some (Value.long y)) (Eq.symm ?_), rfl⟩
    rw [oddsX, if_neg (fun z => c_7 z.1)]
  · have c_7 := bI_n c_7
    (try dsimp only [Gs_M] at c_7)
    refine r_iload_n dX12_odds_10 rfl rfl ?_
    refine r_iconst (v := 0) dX12_odds_11 (by decide) ?_
    refine r_iload_n dX12_odds_12 rfl rfl ?_
    refine r_callS_dI dX12_odds_13 (s_X12_in1 g _ _ _ _) mf_X12_in1 mt_X12_in1 ml_X12_63 rfl rfl (Nat.le_of_ble_eq_true rfl) ⟨(Nat.le_of_ble_eq_true rfl), (Nat.le_of_ble_eq_true rfl)⟩ ⟨(Nat.le_of_ble_eq_true rfl), (Nat.le_of_ble_eq_true rfl)⟩ ?_
    refine r_if_eq (tgt := 28) dX12_odds_16 (by decide) (fun c_16 => ?_) (fun c_16 => ?_)
    · have c_16 := bI_0 c_16
      (try dsimp only [Gs_M] at c_16)
      refine r_ldc2 dX12_odds_28 kl_X12_236 ?_
      refine r_lret dX12_odds_31 rfl (Nat.le_refl _) ?_
      (try dsimp only [Gs_M])
      refine ⟨congrArg (fun y => some (Value.long y)) (Eq.symm ?_), rfl⟩
      rw [oddsX, if_neg (fun z => c_16 z.2.1)]
    · have c_16 := bI_n c_16
      (try dsimp only [Gs_M] at c_16)
      refine r_iload_n dX12_odds_19 rfl rfl ?_
      refine r_iconst (v := 0) dX12_odds_20 (by decide) ?_
      refine r_iconst (v := 1) dX12_odds_21 (by decide) ?_
      refine r_callS_dI dX12_odds_22 (s_X12_in1 g _ _ _ _) mf_X12_in1 mt_X12_in1 ml_X12_63 rfl rfl (Nat.le_of_ble_eq_true rfl) ⟨(Nat.le_of_ble_eq_true rfl), (Nat.le_of_ble_eq_true rfl)⟩ ⟨(Nat.le_of_ble_eq_true rfl), (Nat.le_of_ble_eq_true rfl)⟩ ?_
      refine r_if_ne (tgt := 32) dX12_odds_25 (by decide) (fun c_25 => ?_) (fun c_25 => ?_)
      · have c_25 := bI_n c_25
        (try dsimp only [Gs_M] at c_25)
        obtain ⟨jn, hjn, rfl⟩ := rng (x := n) 8 (by decide) c_7
        obtain ⟨jk, hjk, rfl⟩ := rng (x := k) jn (nI_toInt (by omega)) c_16
        refine r_lconst (v := 1) dX12_odds_32 (by decide) ?_
        refine r_lstore dX12_odds_33 (by decide) ?_
        refine r_lconst (v := 1) dX12_odds_35 (by decide) ?_
        refine r_lstore dX12_odds_36 (by decide) ?_
        refine r_iconst (v := 0) dX12_odds_38 (by decide) ?_
        refine r_istore dX12_odds_39 (by decide) ?_
        have lp : ∀ (j_ : Nat) (i : Nat) (hi : i ≤ jk), jk - i < j_ → PW g mX12_odds (eN g (Gs M0).1 2 0 0 (dL (oddsX (M0 55) (nI jn) (nI jk) w) (Gs M0))) 41 [some (.ref 54), some (.int (nI jn)), some (.int (nI jk)), some (.int w), some (.long (nL (binR jn i))), none, some (.long 1), none, some (.int (nI i))] [] (Gs M0) 0 0 := by
          intro j_
          induction j_ with
          | zero => intro i hi hj; exact absurd hj (Nat.not_lt_zero _)
          | succ j_ ih =>
            intro i hi hj
            have hb := binR_le (n := jn) (i := i) hjn (by omega)
            have hm : binR jn i * (jn - i) ≤ 70 * 8 := Nat.mul_le_mul hb (by omega)
            refine r_iload dX12_odds_41 rfl ?_
            refine r_iload_n dX12_odds_43 rfl rfl ?_
            refine r_icmp_geN (i) (jk) (tgt := 69) dX12_odds_44 (by decide) (by omega) (by omega) (fun c_44 => ?_) (fun c_44 => ?_)
            · (try dsimp only [Gs_M] at c_44)
              refine r_iconst (v := 0) dX12_odds_69 (by decide) ?_
              refine r_istore dX12_odds_70 (by decide) ?_
              have ei : i = jk := by omega
              subst ei
              have lq : ∀ (j_ : Nat) (j : Nat) (hj2 : j ≤ jn), jn - j < j_ → PW g mX12_odds (eN g (Gs M0).1 2 0 0 (dL (oddsX (M0 55) (nI jn) (nI i) w) (Gs M0))) 72 [some (.ref 54), some (.int (nI jn)), some (.int (nI i)), some (.int w), some (.long (nL (topR jn i c j))), none, some (.long (nL (100 ^ j))), none, some (.int (nI j))] [] (Gs M0) 0 0 := by
                intro j_
                induction j_ with
                | zero => intro j hj2 hj; exact absurd hj (Nat.not_lt_zero _)
                | succ j_ ih =>
                  intro j hj2 hj
                  have ht := topR_le (n := jn) (k := i) (c := c) hjn hjk hc j
                  have hp := pow100 (i := j) (by omega)
                  refine r_iload dX12_odds_72 rfl ?_
                  refine r_iload_n dX12_odds_74 rfl rfl ?_
                  refine r_icmp_geN (j) (jn) (tgt := 123) dX12_odds_75 (by decide) (by omega) (by omega) (fun c_75 => ?_) (fun c_75 => ?_)
                  · (try dsimp only [Gs_M] at c_75)
                    have ej : jn = j := by omega
                    subst ej
                    refine r_lload dX12_odds_123 rfl ?_
                    refine r_lload dX12_odds_125 rfl ?_
                    refine r_iload_n dX12_odds_127 rfl rfl ?_
                    refine r_callS_dL dX12_odds_128 (s_X12_partOf_ g (topR jn i c jn) (100 ^ jn) (by omega) (by omega) (Nat.pow_pos (by decide)) w _) mf_X12_partOf_ mt_X12_partOf_ ml_X12_240 rfl rfl (Nat.le_of_ble_eq_true rfl) ⟨(Nat.le_of_ble_eq_true rfl), (Nat.le_of_ble_eq_true rfl)⟩ ⟨(Nat.le_of_ble_eq_true rfl), (Nat.le_of_ble_eq_true rfl)⟩ ?_
                    refine r_lret dX12_odds_131 rfl (Nat.le_refl _) ?_
                    (try dsimp only [Gs_M])
                    refine ⟨congrArg (fun y => some (Value.long y)) (Eq.symm ?_), rfl⟩
                    rw [oddsX, if_pos ⟨c_7, c_16, c_25⟩, cl_nI (by omega), cl_nI (by omega), ec, cl_nI (by omega)]
                  · (try dsimp only [Gs_M] at c_75)
                    refine r_lload dX12_odds_78 rfl ?_
                    refine r_iload dX12_odds_80 rfl ?_
                    refine r_iload_n dX12_odds_82 rfl rfl ?_
                    refine r_icmp_geN (j) (i) (tgt := 96) dX12_odds_83 (by decide) (by omega) (by omega) (fun c_83 => ?_) (fun c_83 => ?_)
                    · (try dsimp only [Gs_M] at c_83)
                      refine r_bipush (v := 100) dX12_odds_96 (by decide) ?_
                      refine r_aload_n dX12_odds_98 rfl rfl ?_
                      refine r_getR (q := 55) dX12_odds_99 (ci := 12) (kf := 0) rfl (Nat.le_of_ble_eq_true rfl) (by decide) (by decide) rfl fl_X12_9 (Or.inl rfl) rfl ?_
                      refine r_iconst (v := 4) dX12_odds_102 (by decide) ?_
                      refine r_iald (j := 4) dX12_odds_103 rfl (Nat.le_of_ble_eq_true rfl) rfl (by decide) (by decide) ?_
                      rw [show (Gs M0).2.2.2 55 4 = nI c from ec]
                      refine r_isubN (100) (c) dX12_odds_104 (by omega) ?_
                      refine r_i2l dX12_odds_105 rfl ?_
                      rw [nL_i2l (by omega)]
                      refine r_lmul dX12_odds_106 ?_
                      rw [nL_mul]
                      refine r_lstore dX12_odds_107 (by decide) ?_
                      refine r_lload dX12_odds_109 rfl ?_
                      refine r_ldc2 dX12_odds_111 kl_X12_238 ?_
                      refine r_lmul dX12_odds_114 ?_
                      rw [show (100 : Int64) = nL 100 from rfl, nL_mul]
                      refine r_lstore dX12_odds_115 (by decide) ?_
                      refine r_iinc (v := nI (j + 1)) dX12_odds_117 rfl (nI_1 _) (by decide) ?_
                      refine r_goto (tgt := 72) dX12_odds_120 (by decide) ?_
                      refine PW.subL (ih (j + 1) (by omega) (by omega)) ?_
                      rw [topR, if_neg (by omega), Nat.pow_succ]
                      repeat' first | exact True.intro | refine And.intro rfl ?_
                    · (try dsimp only [Gs_M] at c_83)
                      refine r_aload_n dX12_odds_86 rfl rfl ?_
                      refine r_getR (q := 55) dX12_odds_87 (ci := 12) (kf := 0) rfl (Nat.le_of_ble_eq_true rfl) (by decide) (by decide) rfl fl_X12_9 (Or.inl rfl) rfl ?_
                      refine r_iconst (v := 4) dX12_odds_90 (by decide) ?_
                      refine r_iald (j := 4) dX12_odds_91 rfl (Nat.le_of_ble_eq_true rfl) rfl (by decide) (by decide) ?_
                      rw [show (Gs M0).2.2.2 55 4 = nI c from ec]
                      refine r_i2l dX12_odds_92 rfl ?_
                      rw [nL_i2l (by omega)]
                      refine r_goto (tgt := 106) dX12_odds_93 (by decide) ?_
                      
                      refine r_lmul dX12_odds_106 ?_
                      rw [nL_mul]
                      refine r_lstore dX12_odds_107 (by decide) ?_
                      refine r_lload dX12_odds_109 rfl ?_
                      refine r_ldc2 dX12_odds_111 kl_X12_238 ?_
                      refine r_lmul dX12_odds_114 ?_
                      rw [show (100 : Int64) = nL 100 from rfl, nL_mul]
                      refine r_lstore dX12_odds_115 (by decide) ?_
                      refine r_iinc (v := nI (j + 1)) dX12_odds_117 rfl (nI_1 _) (by decide) ?_
                      refine r_goto (tgt := 72) dX12_odds_120 (by decide) ?_
                      refine PW.subL (ih (j + 1) (by omega) (by omega)) ?_
                      rw [topR, if_pos (by omega), Nat.pow_succ]
                      repeat' first | exact True.intro | refine And.intro rfl ?_
              exact PW.subL (lq (jn + 1) 0 (by omega) (by omega)) (by repeat' first | exact True.intro | refine And.intro rfl ?_)
            · (try dsimp only [Gs_M] at c_44)
              refine r_lload dX12_odds_47 rfl ?_
              refine r_iload_n dX12_odds_49 rfl rfl ?_
              refine r_iload dX12_odds_50 rfl ?_
              refine r_isubN (jn) (i) dX12_odds_52 (by omega) ?_
              refine r_i2l dX12_odds_53 rfl ?_
              rw [nL_i2l (by omega)]
              refine r_lmul dX12_odds_54 ?_
              rw [nL_mul]
              refine r_iload dX12_odds_55 rfl ?_
              refine r_iconst (v := 1) dX12_odds_57 (by decide) ?_
              refine r_iaddN (i) (1) dX12_odds_58 ?_
              refine r_i2l dX12_odds_59 rfl ?_
              rw [nL_i2l (by omega)]
              refine r_ldiv dX12_odds_60 (nL_ne0 (by omega) (by omega)) ?_
              rw [nL_div (by omega) (by omega)]
              refine r_lstore dX12_odds_61 (by decide) ?_
              refine r_iinc (v := nI (i + 1)) dX12_odds_63 rfl (nI_1 _) (by decide) ?_
              refine r_goto (tgt := 41) dX12_odds_66 (by decide) ?_
              exact PW.subL (ih (i + 1) (by omega) (by omega)) (by repeat' first | exact True.intro | refine And.intro rfl ?_)
        exact PW.subL (lp (jk + 1) 0 (by omega) (by omega)) (by repeat' first | exact True.intro | refine And.intro rfl ?_)
      · have c_25 := bI_0 c_25
        (try dsimp only [Gs_M] at c_25)
        refine r_ldc2 dX12_odds_28 kl_X12_236 ?_
        refine r_lret dX12_odds_31 rfl (Nat.le_refl _) ?_
        (try dsimp only [Gs_M])
        refine ⟨congrArg (fun y => some (Value.long y)) (Eq.symm ?_), rfl⟩
        rw [oddsX, if_neg (fun z => c_25 z.2.2)]
