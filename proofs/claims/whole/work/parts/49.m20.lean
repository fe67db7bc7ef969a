/-! ===== what is kept, begun, traced, counted ===== -/
theorem mArr_set {S : pS} {i k : Nat} {f : Nat → Int32} {v : Int32} : mSet (mArr S i f) i k v = mArr S i (upd f k v) := by
  simp only [mSet, mArr]
  congr 3
  funext j
  by_cases z : j = i
  · simp [z]
  · simp [z]
theorem mArr_id {S : pS} {i : Nat} : mArr S i (S.2.2.2 i) = S := by
  simp only [mArr]
  obtain ⟨s1, s2, s3, s4⟩ := S
  simp only
  congr 3
  funext j
  by_cases z : j = i
  · simp [z]
  · simp [z]
def TrI (S : pS) : Prop := ∃ t, t ≤ 30 ∧ S.2.2.2 54 24 = nI t
def traceX (T : Nat → Int32) (t i : Int32) : Int32 := if 0 ≤ i ∧ i ≤ t - 1 then T (cl i) else -3
def owcR (W : Nat → Int32) : Nat → Int32
  | 0 => 0
  | p + 1 => owcR W p + (if ownersR W (nI p) (plR W) = 0 then 0 else 1)
def manyX (W : Nat → Int32) (m tp tr w : Int32) : Int32 := if w = 0 then W 6 else if w = 1 then nI (pcR 8 (cl (illR W (plR W)))) else if w = 2 then nI (pcR 8 (cl (cutR (cst W) 8))) else if w = 3 then owcR W 8 else if w = 4 then m else if w = 5 then tp else if w = 6 then tr else -1
theorem owcR_0 {W : Nat → Int32} {p : Nat} {c : Int32} (hc : c = owcR W p) (h : ownersR W (nI p) (plR W) = 0) : c + 0 = owcR W (p + 1) := by rw [owcR, if_pos h, hc]
theorem owcR_1 {W : Nat → Int32} {p : Nat} {c : Int32} (hc : c = owcR W p) (h : ¬ ownersR W (nI p) (plR W) = 0) : c + 1 = owcR W (p + 1) := by rw [owcR, if_neg h, hc]
theorem nI_or {a b : Nat} (ha : a < 2 ^ 31) (hb : b < 2 ^ 31) : nI a ||| nI b = nI (a ||| b) := by
  apply Int32.toBitVec_inj.mp
  rw [Int32.toBitVec_or, nI_tb, nI_tb, nI_tb]
  apply BitVec.eq_of_toNat_eq
  have h3 : a ||| b < 2 ^ 31 := Nat.or_lt_two_pow ha hb
  rw [BitVec.toNat_or, BitVec.toNat_ofNat, BitVec.toNat_ofNat, BitVec.toNat_ofNat, Nat.mod_eq_of_lt (by omega), Nat.mod_eq_of_lt (by omega), Nat.mod_eq_of_lt (by omega)]
theorem or_bit {s : Int32} {k : Nat} (hk : k < 8) (h : ∃ n, n < 2 ^ k ∧ s = nI n) (x : Bool) : ∃ n, n < 2 ^ (k + 1) ∧ (s ||| (if x = true then (1 : Int32) <<< (nI k &&& 31) else 0)) = nI n := by
  obtain ⟨n, hn, rfl⟩ := h
  have hp : 2 ^ (k + 1) ≤ 256 := pow_le8 (p := k + 1) (by omega)
  have hp2 : 2 ^ (k + 1) = 2 ^ k * 2 := Nat.pow_succ _ _
  cases x
  · refine ⟨n, by omega, ?_⟩
    rw [if_neg (by decide)]
    exact Int32.or_zero
  · refine ⟨n ||| 2 ^ k, Nat.or_lt_two_pow (by omega) (by omega), ?_⟩
    rw [if_pos rfl, shl_pl (by omega), nI_or (by omega) (by omega)]
theorem illB {W : Nat → Int32} : ∀ k, k ≤ 8 → ∃ n, n < 2 ^ k ∧ illR W k = nI n
  | 0, _ => ⟨0, by decide, rfl⟩
  | k + 1, h => by
    have e := or_bit (by omega) (illB (W := W) k (by omega)) (decide (0 < W (16 + 11 * k + 2)))
    obtain ⟨n, hn, e2⟩ := e
    refine ⟨n, hn, ?_⟩
    rw [← e2, illR]
    simp only [decide_eq_true_eq]
theorem cutB {c : Nat → Int32} : ∀ k, k ≤ 8 → ∃ n, n < 2 ^ k ∧ cutR c k = nI n
  | 0, _ => ⟨0, by decide, rfl⟩
  | k + 1, h => by
    have e := or_bit (by omega) (cutB (c := c) k (by omega)) (decide (c k < 0))
    obtain ⟨n, hn, e2⟩ := e
    refine ⟨n, hn, ?_⟩
    rw [← e2, cutR]
    simp only [decide_eq_true_eq]
set_option maxRecDepth 20000 in
set_option maxHeartbeats 1000000 in
theorem s_X12_trace (g : pG) {S : pS} (hS : sOk S) (hT : TrI S) (i : Int32) : MS g mX12_trace 2 0 0 [.ref 54, .int i] (S) (eI (fun rx S1 => rx = traceX ((S).2.2.2 70) ((S).2.2.2 54 24) i ∧ kp [] (S) S1)) := by
  obtain ⟨M0, rfl⟩ := sOk_gs hS
  refine MS.of pn_X12 (Nat.le_of_ble_eq_true rfl) ?_
  refine r_iload_n dX12_trace_0 rfl rfl ?_
  refine r_iconst (v := 0) dX12_trace_1 (by decide) ?_
  refine r_aload_n dX12_trace_2 rfl rfl ?_
  refine r_getI dX12_trace_3 (ci := 12) (kf := 24) rfl (Nat.le_of_ble_eq_true rfl) (by decide) (by decide) rfl fl_X12_256 (Or.inl rfl) ?_
  refine r_iconst (v := 1) dX12_trace_6 (by decide) ?_
  refine r_isub dX12_trace_7 ?_
  refine r_callS_dI dX12_trace_8 (s_X12_in1 g _ _ _ _) mf_X12_in1 mt_X12_in1 ml_X12_63 rfl rfl (Nat.le_of_ble_eq_true rfl) ⟨(Nat.le_of_ble_eq_true rfl), (Nat.le_of_ble_eq_true rfl)⟩ ⟨(Nat.le_of_ble_eq_true rfl), (Nat.le_of_ble_eq_true rfl)⟩ ?_
  refine r_if_eq (tgt := 23) dX12_trace_11 (by decide) (fun c_11 => ?_) (fun c_11 => ?_)
  · have c_11 := bI_0 c_11
    (try dsimp only [Gs_M] at c_11)
    refine r_bipush (v := (-3)) dX12_trace_23 (by decide) ?_
    refine r_iret dX12_trace_25 rfl (Nat.le_refl _) ?_
    (try dsimp only [Gs_M])
    refine ⟨_, rfl, ?_, kp.rf hS⟩
    rw [traceX, if_neg c_11]
  · have c_11 := bI_n c_11
    (try dsimp only [Gs_M] at c_11)
    obtain ⟨t, ht, et⟩ := hT
    obtain ⟨ji, hji, rfl⟩ := rng40 c_11 (n := t) (by omega) et
    refine r_aload_n dX12_trace_14 rfl rfl ?_
    refine r_getR (q := 70) dX12_trace_15 (ci := 12) (kf := 23) rfl (Nat.le_of_ble_eq_true rfl) (by decide) (by decide) rfl fl_X12_56 (Or.inl rfl) rfl ?_
    refine r_iload_n dX12_trace_18 rfl rfl ?_
    refine r_iald (j := ji) dX12_trace_19 rfl (Nat.le_of_ble_eq_true rfl) rfl (by omega) (by decide) ?_
    refine r_goto (tgt := 25) dX12_trace_20 (by decide) ?_
    refine r_iret dX12_trace_25 rfl (Nat.le_refl _) ?_
    (try dsimp only [Gs_M])
    refine ⟨_, rfl, ?_, kp.rf hS⟩
    rw [traceX, if_pos c_11, cl_nI (by omega)]
set_option maxRecDepth 20000 in
set_option maxHeartbeats 1000000 in
theorem s_X12_many (g : pG) {S : pS} (hS : sOk S) (hI : InvR (S.2.2.2 55)) (w : Int32) : MS g mX12_many 6 0 0 [.ref 54, .int w] (S) (eI (fun rx S1 => rx = manyX ((S).2.2.2 55) ((S).2.2.2 54 17) ((S).2.2.2 54 9) ((S).2.2.2 54 24) w ∧ kp [59, 60] (S) S1)) := by
  obtain ⟨M0, rfl⟩ := sOk_gs hS
  have hI : InvR (M0 55) := hI
  obtain ⟨h8, hpl⟩ := hI.pl
  have h8 : plR (M0 55) ≤ 8 := h8
  have hpl : M0 55 6 = nI (plR (M0 55)) := hpl
  refine MS.of pn_X12 (Nat.le_of_ble_eq_true rfl) ?_
  refine r_iconst (v := 0) dX12_many_0 (by decide) ?_
  refine r_istore_n dX12_many_1 rfl (by decide) ?_
  refine r_iload_n dX12_many_2 rfl rfl ?_
  by_cases e_3_0 : w = 0
  · refine r_tableAt (tgt := 44) 0 dX12_many_3 e_3_0 (by decide) (by decide) rfl (by decide) ?_
    refine r_aload_n dX12_many_44 rfl rfl ?_
    refine r_getR (q := 55) dX12_many_45 (ci := 12) (kf := 0) rfl (Nat.le_of_ble_eq_true rfl) (by decide) (by decide) rfl fl_X12_9 (Or.inl rfl) rfl ?_
    refine r_bipush (v := 6) dX12_many_48 (by decide) ?_
    refine r_iald (j := 6) dX12_many_50 rfl (Nat.le_of_ble_eq_true rfl) rfl (by decide) (by decide) ?_
    refine r_iret dX12_many_51 rfl (Nat.le_refl _) ?_
    (try dsimp only [Gs_M])
    refine ⟨_, rfl, ?_, kp.rf hS⟩
    rw [manyX, if_pos e_3_0]
  by_cases e_3_1 : w = 1
  · refine r_tableAt (tgt := 52) 1 dX12_many_3 e_3_1 (by decide) (by decide) rfl (by decide) ?_
    refine r_aload_n dX12_many_52 rfl rfl ?_
    refine r_callV_dI (ci := 12) dX12_many_53 (s_X12_illNow g hS hI) mf_X12_illNow mi_X12_illNow se_X12_X12_X12_illNow ml_X12_206 rfl rfl (Nat.le_of_ble_eq_true rfl) rfl (by decide) rfl (Nat.le_of_ble_eq_true rfl) ⟨(Nat.le_of_ble_eq_true rfl), (Nat.le_of_ble_eq_true rfl)⟩ ⟨(Nat.le_of_ble_eq_true rfl), (Nat.le_of_ble_eq_true rfl)⟩ ?_
    obtain ⟨n, hn, en⟩ := illB (W := M0 55) (plR (M0 55)) h8
    have hn2 := Nat.lt_of_lt_of_le hn (pow_le8 h8)
    rw [show illR ((Gs M0).2.2.2 55) (plR ((Gs M0).2.2.2 55)) = nI n from en]
    refine r_callS_dI dX12_many_56 (s_X12_ones g n hn2 _) mf_X12_ones mt_X12_ones ml_X12_224 rfl rfl (Nat.le_of_ble_eq_true rfl) ⟨(Nat.le_of_ble_eq_true rfl), (Nat.le_of_ble_eq_true rfl)⟩ ⟨(Nat.le_of_ble_eq_true rfl), (Nat.le_of_ble_eq_true rfl)⟩ ?_
    refine r_iret dX12_many_59 rfl (Nat.le_refl _) ?_
    (try dsimp only [Gs_M])
    refine ⟨_, rfl, ?_, kp.rf hS⟩
    rw [manyX, if_neg e_3_0, if_pos e_3_1]
    rw [en, cl_nI (by omega)]
  by_cases e_3_2 : w = 2
  · refine r_tableAt (tgt := 60) 2 dX12_many_3 e_3_2 (by decide) (by decide) rfl (by decide) ?_
    refine r_aload_n dX12_many_60 rfl rfl ?_
    refine r_callV_eI (ci := 12) dX12_many_61 (s_X12_cutNow g hS hI) mf_X12_cutNow mi_X12_cutNow se_X12_X12_X12_cutNow ml_X12_203 rfl rfl (Nat.le_of_ble_eq_true rfl) rfl (by decide) rfl (Nat.le_of_ble_eq_true rfl) ⟨(Nat.le_of_ble_eq_true rfl), (Nat.le_of_ble_eq_true rfl)⟩ ⟨(Nat.le_of_ble_eq_true rfl), (Nat.le_of_ble_eq_true rfl)⟩ (fun r_61 S_61 q_61 z_61 => ?_)
    obtain ⟨hx61, hb61⟩ := q_61
    obtain ⟨n, hn, en⟩ := cutB (c := cst (M0 55)) 8 (by omega)
    subst hx61
    rw [show cutR (cst ((Gs M0).2.2.2 55)) 8 = nI n from en]
    refine r_callS_dI dX12_many_64 (s_X12_ones g n hn _) mf_X12_ones mt_X12_ones ml_X12_224 rfl rfl (Nat.le_of_ble_eq_true rfl) ⟨(Nat.le_of_ble_eq_true rfl), (Nat.le_of_ble_eq_true rfl)⟩ ⟨(Nat.le_of_ble_eq_true rfl), (Nat.le_of_ble_eq_true rfl)⟩ ?_
    refine r_iret dX12_many_67 rfl (Nat.le_refl _) ?_
    (try dsimp only [Gs_M])
    refine ⟨_, rfl, ?_, hb61.1⟩
    rw [manyX, if_neg e_3_0, if_neg e_3_1, if_pos e_3_2]
    rw [en, cl_nI (by omega)]
  by_cases e_3_3 : w = 3
  · refine r_tableAt (tgt := 68) 3 dX12_many_3 e_3_3 (by decide) (by decide) rfl (by decide) ?_
    refine r_iconst (v := 0) dX12_many_68 (by decide) ?_
    refine r_istore_n dX12_many_69 rfl (by decide) ?_
    have lp : ∀ (j_ : Nat) (p : Nat) (c : Int32) (hc : c = owcR (M0 55) p) (hp : p ≤ 8), 8 - p < j_ → PW g mX12_many (eN g (Gs M0).1 6 0 0 (eI (fun rx S1 => rx = manyX ((Gs M0).2.2.2 55) ((Gs M0).2.2.2 54 17) ((Gs M0).2.2.2 54 9) ((Gs M0).2.2.2 54 24) w ∧ kp [59, 60] (Gs M0) S1))) 70 [some (.ref 54), some (.int w), some (.int c), some (.int (nI p))] [] (Gs M0) 0 0 := by
      intro j_
      induction j_ with
      | zero => intro p c hc hp hj; exact absurd hj (Nat.not_lt_zero _)
      | succ j_ ih =>
        intro p c hc hp hj
        refine r_iload_n dX12_many_70 rfl rfl ?_
        refine r_bipush (v := 8) dX12_many_71 (by decide) ?_
        refine r_icmp_geN (p) (8) (tgt := 98) dX12_many_73 (by decide) (by omega) (by omega) (fun c_73 => ?_) (fun c_73 => ?_)
        · (try dsimp only [Gs_M] at c_73)
          refine r_iload_n dX12_many_98 rfl rfl ?_
          refine r_iret dX12_many_99 rfl (Nat.le_refl _) ?_
          (try dsimp only [Gs_M])
          have ep : p = 8 := by omega
          subst ep
          refine ⟨_, rfl, ?_, kp.rf hS⟩
          rw [manyX, if_neg e_3_0, if_neg e_3_1, if_neg e_3_2, if_pos e_3_3]
          exact hc
        · (try dsimp only [Gs_M] at c_73)
          refine r_iload_n dX12_many_76 rfl rfl ?_
          refine r_aload_n dX12_many_77 rfl rfl ?_
          refine r_iload_n dX12_many_78 rfl rfl ?_
          refine r_callV_dI (ci := 12) dX12_many_79 (s_X12_ownersOf g hS hI _) mf_X12_ownersOf mi_X12_ownersOf se_X12_X12_X12_ownersOf ml_X12_185 rfl rfl (Nat.le_of_ble_eq_true rfl) rfl (by decide) rfl (Nat.le_of_ble_eq_true rfl) ⟨(Nat.le_of_ble_eq_true rfl), (Nat.le_of_ble_eq_true rfl)⟩ ⟨(Nat.le_of_ble_eq_true rfl), (Nat.le_of_ble_eq_true rfl)⟩ ?_
          refine r_if_eq (tgt := 89) dX12_many_82 (by decide) (fun c_82 => ?_) (fun c_82 => ?_)
          · (try dsimp only [Gs_M] at c_82)
            refine r_iconst (v := 0) dX12_many_89 (by decide) ?_
            refine r_iadd dX12_many_90 ?_
            refine r_istore_n dX12_many_91 rfl (by decide) ?_
            refine r_iinc (v := nI (p + 1)) dX12_many_92 rfl (nI_1 _) (by decide) ?_
            refine r_goto (tgt := 70) dX12_many_95 (by decide) ?_
            exact PW.subL (ih (p + 1) _ (owcR_0 hc c_82) (by omega) (by omega)) (by repeat' first | exact True.intro | refine And.intro rfl ?_)
          · (try dsimp only [Gs_M] at c_82)
            refine r_iconst (v := 1) dX12_many_85 (by decide) ?_
            refine r_goto (tgt := 90) dX12_many_86 (by decide) ?_
            refine r_iadd dX12_many_90 ?_
            refine r_istore_n dX12_many_91 rfl (by decide) ?_
            refine r_iinc (v := nI (p + 1)) dX12_many_92 rfl (nI_1 _) (by decide) ?_
            refine r_goto (tgt := 70) dX12_many_95 (by decide) ?_
            exact PW.subL (ih (p + 1) _ (owcR_1 hc c_82) (by omega) (by omega)) (by repeat' first | exact True.intro | refine And.intro rfl ?_)
    exact PW.subL (lp 9 0 0 rfl (by omega) (by omega)) (by repeat' first | exact True.intro | refine And.intro rfl ?_)
  by_cases e_3_4 : w = 4
  · refine r_tableAt (tgt := 100) 4 dX12_many_3 e_3_4 (by decide) (by decide) rfl (by decide) ?_
    refine r_aload_n dX12_many_100 rfl rfl ?_
    refine r_getI dX12_many_101 (ci := 12) (kf := 17) rfl (Nat.le_of_ble_eq_true rfl) (by decide) (by decide) rfl fl_X12_173 (Or.inl rfl) ?_
    refine r_iret dX12_many_104 rfl (Nat.le_refl _) ?_
    (try dsimp only [Gs_M])
    refine ⟨_, rfl, ?_, kp.rf hS⟩
    rw [manyX, if_neg e_3_0, if_neg e_3_1, if_neg e_3_2, if_neg e_3_3, if_pos e_3_4]
  by_cases e_3_5 : w = 5
  · refine r_tableAt (tgt := 105) 5 dX12_many_3 e_3_5 (by decide) (by decide) rfl (by decide) ?_
    refine r_aload_n dX12_many_105 rfl rfl ?_
    refine r_getI dX12_many_106 (ci := 12) (kf := 9) rfl (Nat.le_of_ble_eq_true rfl) (by decide) (by decide) rfl fl_X12_117 (Or.inl rfl) ?_
    refine r_iret dX12_many_109 rfl (Nat.le_refl _) ?_
    (try dsimp only [Gs_M])
    refine ⟨_, rfl, ?_, kp.rf hS⟩
    rw [manyX, if_neg e_3_0, if_neg e_3_1, if_neg e_3_2, if_neg e_3_3, if_neg e_3_4, if_pos e_3_5]
  by_cases e_3_6 : w = 6
  · refine r_tableAt (tgt := 110) 6 dX12_many_3 e_3_6 (by decide) (by decide) rfl (by decide) ?_
    refine r_aload_n dX12_many_110 rfl rfl ?_
    refine r_getI dX12_many_111 (ci := 12) (kf := 24) rfl (Nat.le_of_ble_eq_true rfl) (by decide) (by decide) rfl fl_X12_256 (Or.inl rfl) ?_
    refine r_iret dX12_many_114 rfl (Nat.le_refl _) ?_
    (try dsimp only [Gs_M])
    refine ⟨_, rfl, ?_, kp.rf hS⟩
    rw [manyX, if_neg e_3_0, if_neg e_3_1, if_neg e_3_2, if_neg e_3_3, if_neg e_3_4, if_neg e_3_5, if_pos e_3_6]
  refine r_tableOut (tgt := 115) dX12_many_3 (out_of2 (lo := 0) (n := 6) (by decide) (fun j hl hj => ?_)) (by decide) ?_
  · rcases (by omega : j = 0 ∨ j = 1 ∨ j = 2 ∨ j = 3 ∨ j = 4 ∨ j = 5 ∨ j = 6) with rfl | rfl | rfl | rfl | rfl | rfl | rfl
    · exact e_3_0
    · exact e_3_1
    · exact e_3_2
    · exact e_3_3
    · exact e_3_4
    · exact e_3_5
    · exact e_3_6
  refine r_iconst (v := (-1)) dX12_many_115 (by decide) ?_
  refine r_iret dX12_many_116 rfl (Nat.le_refl _) ?_
  (try dsimp only [Gs_M])
  refine ⟨_, rfl, ?_, kp.rf hS⟩
  rw [manyX, if_neg e_3_0, if_neg e_3_1, if_neg e_3_2, if_neg e_3_3, if_neg e_3_4, if_neg e_3_5, if_neg e_3_6]
theorem kp_arr {S : pS} (hS : sOk S) {i : Nat} {f : Nat → Int32} (h54 : i ≠ 54) : kp [i] S (mArr S i f) := ⟨hS, fun q a b => mArr_ne (fun z => a (by rw [z]; exact List.mem_cons_self)), fun x a => by rw [mArr_ne (Ne.symm h54)]⟩
set_option maxRecDepth 20000 in
set_option maxHeartbeats 1000000 in
theorem s_X12_keep (g : pG) {S : pS} (hS : sOk S) : MS g mX12_keep 2 0 0 [.ref 54] (S) (eI (fun rx S1 => rx = 1 ∧ kq [56] [4] (S) S1 ∧ S1.2.2.2 56 = ovr ((S).2.2.2 55) ((S).2.2.2 56) ∧ S1.2.2.2 54 4 = 1)) := by
  obtain ⟨M0, rfl⟩ := sOk_gs hS
  refine MS.of pn_X12 (Nat.le_of_ble_eq_true rfl) ?_
  refine r_aload_n dX12_keep_0 rfl rfl ?_
  refine r_getR (q := 55) dX12_keep_1 (ci := 12) (kf := 0) rfl (Nat.le_of_ble_eq_true rfl) (by decide) (by decide) rfl fl_X12_9 (Or.inl rfl) rfl ?_
  refine r_aload_n dX12_keep_4 rfl rfl ?_
  refine r_getR (q := 56) dX12_keep_5 (ci := 12) (kf := 1) rfl (Nat.le_of_ble_eq_true rfl) (by decide) (by decide) rfl fl_X12_13 (Or.inl rfl) rfl ?_
  refine r_callS_dV dX12_keep_8 (s_X12_copies g (by decide) rfl rfl (Nat.le_of_ble_eq_true rfl) (Nat.le_of_ble_eq_true rfl)) mf_X12_copies mt_X12_copies ml_X12_169 rfl rfl (Nat.le_of_ble_eq_true rfl) ⟨(Nat.le_of_ble_eq_true rfl), (Nat.le_of_ble_eq_true rfl)⟩ ⟨(Nat.le_of_ble_eq_true rfl), (Nat.le_of_ble_eq_true rfl)⟩ ?_
  refine r_aload_n dX12_keep_11 rfl rfl ?_
  refine r_iconst (v := 1) dX12_keep_12 (by decide) ?_
  refine r_putI dX12_keep_13 (ci := 12) (kf := 4) rfl (Nat.le_of_ble_eq_true rfl) (by decide) (by decide) rfl fl_X12_281 (Or.inl rfl) rfl rfl rfl ?_
  refine r_iconst (v := 1) dX12_keep_16 (by decide) ?_
  refine r_iret dX12_keep_17 rfl (Nat.le_refl _) ?_
  (try dsimp only [Gs_M])
  refine ⟨_, rfl, rfl, ((kp_arr hS (by decide)).kq).set (by decide), ?_, ?_⟩
  · rw [mSet_ne (by decide)]
    exact mArr_at
  · rw [mSet_at, pk_us]
def agnX (k : Int32) (f : Nat → Int32) : Int32 := if k = 0 then -3 else f 6
def agnW (k : Int32) (f W : Nat → Int32) : Nat → Int32 := if k = 0 then W else ovr f W
set_option maxRecDepth 20000 in
set_option maxHeartbeats 1000000 in
theorem s_X12_again (g : pG) {S : pS} (hS : sOk S) : MS g mX12_again 2 0 0 [.ref 54] (S) (eI (fun rx S1 => rx = agnX ((S).2.2.2 54 4) ((S).2.2.2 56) ∧ kp [55] (S) S1 ∧ S1.2.2.2 55 = agnW ((S).2.2.2 54 4) ((S).2.2.2 56) ((S).2.2.2 55))) := by
  obtain ⟨M0, rfl⟩ := sOk_gs hS
  refine MS.of pn_X12 (Nat.le_of_ble_eq_true rfl) ?_
  refine r_aload_n dX12_again_0 rfl rfl ?_
  refine r_getI dX12_again_1 (ci := 12) (kf := 4) rfl (Nat.le_of_ble_eq_true rfl) (by decide) (by decide) rfl fl_X12_281 (Or.inl rfl) ?_
  refine r_if_ne (tgt := 10) dX12_again_4 (by decide) (fun c_4 => ?_) (fun c_4 => ?_)
  · (try dsimp only [Gs_M] at c_4)
    refine r_aload_n dX12_again_10 rfl rfl ?_
    refine r_getR (q := 56) dX12_again_11 (ci := 12) (kf := 1) rfl (Nat.le_of_ble_eq_true rfl) (by decide) (by decide) rfl fl_X12_13 (Or.inl rfl) rfl ?_
    refine r_aload_n dX12_again_14 rfl rfl ?_
    refine r_getR (q := 55) dX12_again_15 (ci := 12) (kf := 0) rfl (Nat.le_of_ble_eq_true rfl) (by decide) (by decide) rfl fl_X12_9 (Or.inl rfl) rfl ?_
    refine r_callS_dV dX12_again_18 (s_X12_copies g (by decide) rfl rfl (Nat.le_of_ble_eq_true rfl) (Nat.le_of_ble_eq_true rfl)) mf_X12_copies mt_X12_copies ml_X12_169 rfl rfl (Nat.le_of_ble_eq_true rfl) ⟨(Nat.le_of_ble_eq_true rfl), (Nat.le_of_ble_eq_true rfl)⟩ ⟨(Nat.le_of_ble_eq_true rfl), (Nat.le_of_ble_eq_true rfl)⟩ ?_
    refine r_aload_n dX12_again_21 rfl rfl ?_
    refine r_getR (q := 55) dX12_again_22 (ci := 12) (kf := 0) rfl (Nat.le_of_ble_eq_true rfl) (by decide) (by decide) rfl fl_X12_9 (Or.inl rfl) rfl ?_
    refine r_bipush (v := 6) dX12_again_25 (by decide) ?_
    refine r_iald (j := 6) dX12_again_27 rfl (Nat.le_of_ble_eq_true rfl) rfl (by decide) (by decide) ?_
    refine r_iret dX12_again_28 rfl (Nat.le_refl _) ?_
    (try dsimp only [Gs_M])
    refine ⟨_, rfl, ?_, kp_arr hS (by decide), ?_⟩
    · rw [agnX, if_neg c_4, mArr_at]
      rfl
    · rw [agnW, if_neg c_4]
      exact mArr_at
  · (try dsimp only [Gs_M] at c_4)
    refine r_bipush (v := (-3)) dX12_again_7 (by decide) ?_
    refine r_iret dX12_again_9 rfl (Nat.le_refl _) ?_
    (try dsimp only [Gs_M])
    refine ⟨_, rfl, ?_, kp.rf hS, ?_⟩
    · rw [agnX, if_pos c_4]
    · rw [agnW, if_pos c_4]
      rfl
def zeR (f : Nat → Int32) (i : Nat) : Nat → Int32 := fun x => if x < i then 0 else f x
theorem zeR_s {f : Nat → Int32} {i : Nat} : upd (zeR f i) i 0 = zeR f (i + 1) := by
  funext x
  by_cases z : x = i
  · rw [z, pk_us]; exact (if_pos (by omega)).symm
  · rw [pk_un z]
    show (if x < i then _ else _) = (if x < i + 1 then _ else _)
    by_cases h : x < i
    · rw [if_pos h, if_pos (by omega)]
    · rw [if_neg h, if_neg (by omega)]
theorem zeR_0 {f : Nat → Int32} : zeR f 0 = f := by
  funext x
  exact if_neg (by omega)
def wtR (f : Nat → Int32) : Nat → Nat → Int32
  | 0 => f
  | i + 1 => upd (wtR f i) (8 + i) 3
def begR (f : Nat → Int32) : Nat → Int32 := wtR (upd (upd (upd (upd (zeR f 104) 1 3) 2 4) 3 10) 4 20) 8
set_option maxRecDepth 20000 in
set_option maxHeartbeats 1000000 in
theorem s_X12_begins (g : pG) {S : pS} {a : Nat} (ha : S.2.1 a = .inl (0, 104)) (hal : a < S.1) : MS g mX12_begins 1 0 0 [.ref a] (S) (dV (mArr S a (begR (S.2.2.2 a)))) := by
  refine MS.of pn_X12 (Nat.le_of_ble_eq_true rfl) ?_
  have lq : ∀ (j_ : Nat) (i : Nat) (hi : i ≤ 8), 8 - i < j_ → PW g mX12_begins (eN g S.1 1 0 0 (dV (mArr S a (begR (S.2.2.2 a))))) 38 [some (.ref a), some (.int (nI i))] [] (mArr S a (wtR (upd (upd (upd (upd (zeR (S.2.2.2 a) 104) 1 3) 2 4) 3 10) 4 20) i)) 0 0 := by
    intro j_
    induction j_ with
    | zero => intro i hi hj; exact absurd hj (Nat.not_lt_zero _)
    | succ j_ ih =>
      intro i hi hj
      refine r_iload_n dX12_begins_38 rfl rfl ?_
      refine r_bipush (v := 8) dX12_begins_39 (by decide) ?_
      refine r_icmp_geN (i) (8) (tgt := 57) dX12_begins_41 (by decide) (by omega) (by omega) (fun c_41 => ?_) (fun c_41 => ?_)
      · (try dsimp only [Gs_M] at c_41)
        refine r_vret dX12_begins_57 rfl (Nat.le_refl _) ?_
        (try dsimp only [Gs_M])
        obtain rfl : i = 8 := by omega
        exact ⟨rfl, rfl⟩
      · (try dsimp only [Gs_M] at c_41)
        refine r_aload_n dX12_begins_44 rfl rfl ?_
        refine r_bipush (v := 8) dX12_begins_45 (by decide) ?_
        refine r_iload_n dX12_begins_47 rfl rfl ?_
        refine r_iaddN (8) (i) dX12_begins_48 ?_
        refine r_iconst (v := 3) dX12_begins_49 (by decide) ?_
        refine r_iast (j := (8 + i)) dX12_begins_50 ha hal rfl (by omega) (by decide) ?_
        refine r_iinc (v := nI (i + 1)) dX12_begins_51 rfl (nI_1 _) (by decide) ?_
        refine r_goto (tgt := 38) dX12_begins_54 (by decide) ?_
        rw [mArr_set]
        exact PW.subL (ih (i + 1) (by omega) (by omega)) (by repeat' first | exact True.intro | refine And.intro rfl ?_)
  have lp : ∀ (j_ : Nat) (i : Nat) (hi : i ≤ 104), 104 - i < j_ → PW g mX12_begins (eN g S.1 1 0 0 (dV (mArr S a (begR (S.2.2.2 a))))) 2 [some (.ref a), some (.int (nI i))] [] (mArr S a (zeR (S.2.2.2 a) i)) 0 0 := by
    intro j_
    induction j_ with
    | zero => intro i hi hj; exact absurd hj (Nat.not_lt_zero _)
    | succ j_ ih =>
      intro i hi hj
      refine r_iload_n dX12_begins_2 rfl rfl ?_
      refine r_bipush (v := 104) dX12_begins_3 (by decide) ?_
      refine r_icmp_geN (i) (104) (tgt := 18) dX12_begins_5 (by decide) (by omega) (by omega) (fun c_5 => ?_) (fun c_5 => ?_)
      · (try dsimp only [Gs_M] at c_5)
        refine r_aload_n dX12_begins_18 rfl rfl ?_
        refine r_iconst (v := 1) dX12_begins_19 (by decide) ?_
        refine r_iconst (v := 3) dX12_begins_20 (by decide) ?_
        refine r_iast (j := 1) dX12_begins_21 ha hal rfl (by decide) (by decide) ?_
        refine r_aload_n dX12_begins_22 rfl rfl ?_
        refine r_iconst (v := 2) dX12_begins_23 (by decide) ?_
        refine r_iconst (v := 4) dX12_begins_24 (by decide) ?_
        refine r_iast (j := 2) dX12_begins_25 ha hal rfl (by decide) (by decide) ?_
        refine r_aload_n dX12_begins_26 rfl rfl ?_
        refine r_iconst (v := 3) dX12_begins_27 (by decide) ?_
        refine r_bipush (v := 10) dX12_begins_28 (by decide) ?_
        refine r_iast (j := 3) dX12_begins_30 ha hal rfl (by decide) (by decide) ?_
        refine r_aload_n dX12_begins_31 rfl rfl ?_
        refine r_iconst (v := 4) dX12_begins_32 (by decide) ?_
        refine r_bipush (v := 20) dX12_begins_33 (by decide) ?_
        refine r_iast (j := 4) dX12_begins_35 ha hal rfl (by decide) (by decide) ?_
        refine r_iconst (v := 0) dX12_begins_36 (by decide) ?_
        refine r_istore_n dX12_begins_37 rfl (by decide) ?_
        obtain rfl : i = 104 := by omega
        rw [mArr_set, mArr_set, mArr_set, mArr_set]
        exact PW.subL (lq 9 0 (by omega) (by omega)) (by repeat' first | exact True.intro | refine And.intro rfl ?_)
      · (try dsimp only [Gs_M] at c_5)
        refine r_aload_n dX12_begins_8 rfl rfl ?_
        refine r_iload_n dX12_begins_9 rfl rfl ?_
        refine r_iconst (v := 0) dX12_begins_10 (by decide) ?_
        refine r_iast (j := i) dX12_begins_11 ha hal rfl (by omega) (by decide) ?_
        refine r_iinc (v := nI (i + 1)) dX12_begins_12 rfl (nI_1 _) (by decide) ?_
        refine r_goto (tgt := 2) dX12_begins_15 (by decide) ?_
        rw [mArr_set, zeR_s]
        exact PW.subL (ih (i + 1) (by omega) (by omega)) (by repeat' first | exact True.intro | refine And.intro rfl ?_)
  refine r_iconst (v := 0) dX12_begins_0 (by decide) ?_
  refine r_istore_n dX12_begins_1 rfl (by decide) ?_
  have h0 := lp 105 0 (by omega) (by omega)
  rw [zeR_0, mArr_id] at h0
  exact PW.subL h0 (by repeat' first | exact True.intro | refine And.intro rfl ?_)
