/-! ===== the law's switch, loop and body ===== -/
theorem and63 (x : Int32) : ∃ j, j < 64 ∧ x &&& 63 = nI j := by
  refine ⟨x.toBitVec.toNat % 64, Nat.mod_lt _ (by decide), ?_⟩
  apply Int32.toBitVec_inj.mp
  apply BitVec.eq_of_toNat_eq
  rw [Int32.toBitVec_and, BitVec.toNat_and, nI_tb, BitVec.toNat_ofNat]
  have e : (63 : Int32).toBitVec.toNat = 2 ^ 6 - 1 := rfl
  rw [e, Nat.and_two_pow_sub_one_eq_mod]
  omega
theorem law_sw (g : pG) {L : Nat} {xs : Nat → Int32} (hL : L ≤ 2560) {i : Nat} (hi : i + 5 ≤ L) (kk : Go g L xs 1655 i) {S : pS} (hS : sOk S) (h : RS S) : ∀ j : Nat, j < 64 → PW g mL (eL g L xs) 32 (LL i) [.int (nI j)] S 71 1920
  | 0, _ => r_tableAt 0 (off := 196) (tgt := 228) dL_law_32 rfl (by decide) (by decide) rfl (by decide) (lc_0 g hL hi kk S hS h)
  | 1, _ => r_tableAt 1 (off := 259) (tgt := 291) dL_law_32 rfl (by decide) (by decide) rfl (by decide) (lc_1 g hL hi kk S hS h)
  | 2, _ => r_tableAt 2 (off := 272) (tgt := 304) dL_law_32 rfl (by decide) (by decide) rfl (by decide) (lc_2 g hL hi kk S hS h)
  | 3, _ => r_tableAt 3 (off := 305) (tgt := 337) dL_law_32 rfl (by decide) (by decide) rfl (by decide) (lc_3 g hL hi kk S hS h)
  | 4, _ => r_tableAt 4 (off := 328) (tgt := 360) dL_law_32 rfl (by decide) (by decide) rfl (by decide) (lc_4 g hL hi kk S hS h)
  | 5, _ => r_tableAt 5 (off := 361) (tgt := 393) dL_law_32 rfl (by decide) (by decide) rfl (by decide) (lc_5 g hL hi kk S hS h)
  | 6, _ => r_tableAt 6 (off := 394) (tgt := 426) dL_law_32 rfl (by decide) (by decide) rfl (by decide) (lc_6 g hL hi kk S hS h)
  | 7, _ => r_tableAt 7 (off := 427) (tgt := 459) dL_law_32 rfl (by decide) (by decide) rfl (by decide) (lc_7 g hL hi kk S hS h)
  | 8, _ => r_tableAt 8 (off := 460) (tgt := 492) dL_law_32 rfl (by decide) (by decide) rfl (by decide) (lc_8 g hL hi kk S hS h)
  | 9, _ => r_tableAt 9 (off := 493) (tgt := 525) dL_law_32 rfl (by decide) (by decide) rfl (by decide) (lc_9 g hL hi kk S hS h)
  | 10, _ => r_tableAt 10 (off := 536) (tgt := 568) dL_law_32 rfl (by decide) (by decide) rfl (by decide) (lc_10 g hL hi kk S hS h)
  | 11, _ => r_tableAt 11 (off := 569) (tgt := 601) dL_law_32 rfl (by decide) (by decide) rfl (by decide) (lc_11 g hL hi kk S hS h)
  | 12, _ => r_tableAt 12 (off := 612) (tgt := 644) dL_law_32 rfl (by decide) (by decide) rfl (by decide) (lc_12 g hL hi kk S hS h)
  | 13, _ => r_tableAt 13 (off := 645) (tgt := 677) dL_law_32 rfl (by decide) (by decide) rfl (by decide) (lc_13 g hL hi kk S hS h)
  | 14, _ => r_tableAt 14 (off := 668) (tgt := 700) dL_law_32 rfl (by decide) (by decide) rfl (by decide) (lc_14 g hL hi kk S hS h)
  | 15, _ => r_tableAt 15 (off := 691) (tgt := 723) dL_law_32 rfl (by decide) (by decide) rfl (by decide) (lc_15 g hL hi kk S hS h)
  | 16, _ => r_tableAt 16 (off := 704) (tgt := 736) dL_law_32 rfl (by decide) (by decide) rfl (by decide) (lc_16 g hL hi kk S hS h)
  | 17, _ => r_tableAt 17 (off := 727) (tgt := 759) dL_law_32 rfl (by decide) (by decide) rfl (by decide) (lc_17 g hL hi kk S hS h)
  | 18, _ => r_tableAt 18 (off := 750) (tgt := 782) dL_law_32 rfl (by decide) (by decide) rfl (by decide) (lc_18 g hL hi kk S hS h)
  | 19, _ => r_tableAt 19 (off := 793) (tgt := 825) dL_law_32 rfl (by decide) (by decide) rfl (by decide) (lc_19 g hL hi kk S hS h)
  | 20, _ => r_tableAt 20 (off := 816) (tgt := 848) dL_law_32 rfl (by decide) (by decide) rfl (by decide) (lc_20 g hL hi kk S hS h)
  | 21, _ => r_tableAt 21 (off := 849) (tgt := 881) dL_law_32 rfl (by decide) (by decide) rfl (by decide) (lc_21 g hL hi kk S hS h)
  | 22, _ => r_tableAt 22 (off := 862) (tgt := 894) dL_law_32 rfl (by decide) (by decide) rfl (by decide) (lc_22 g hL hi kk S hS h)
  | 23, _ => r_tableAt 23 (off := 875) (tgt := 907) dL_law_32 rfl (by decide) (by decide) rfl (by decide) (lc_23 g hL hi kk S hS h)
  | 24, _ => r_tableAt 24 (off := 908) (tgt := 940) dL_law_32 rfl (by decide) (by decide) rfl (by decide) (lc_24 g hL hi kk S hS h)
  | 25, _ => r_tableAt 25 (off := 941) (tgt := 973) dL_law_32 rfl (by decide) (by decide) rfl (by decide) (lc_25 g hL hi kk S hS h)
  | 26, _ => r_tableAt 26 (off := 974) (tgt := 1006) dL_law_32 rfl (by decide) (by decide) rfl (by decide) (lc_26 g hL hi kk S hS h)
  | 27, _ => r_tableAt 27 (off := 997) (tgt := 1029) dL_law_32 rfl (by decide) (by decide) rfl (by decide) (lc_27 g hL hi kk S hS h)
  | 28, _ => r_tableAt 28 (off := 1040) (tgt := 1072) dL_law_32 rfl (by decide) (by decide) rfl (by decide) (lc_28 g hL hi kk S hS h)
  | 29, _ => r_tableAt 29 (off := 1084) (tgt := 1116) dL_law_32 rfl (by decide) (by decide) rfl (by decide) (lc_29 g hL hi kk S hS h)
  | 30, _ => r_tableAt 30 (off := 1118) (tgt := 1150) dL_law_32 rfl (by decide) (by decide) rfl (by decide) (lc_30 g hL hi kk S hS h)
  | 31, _ => r_tableAt 31 (off := 1151) (tgt := 1183) dL_law_32 rfl (by decide) (by decide) rfl (by decide) (lc_31 g hL hi kk S hS h)
  | 32, _ => r_tableAt 32 (off := 1184) (tgt := 1216) dL_law_32 rfl (by decide) (by decide) rfl (by decide) (lc_32 g hL hi kk S hS h)
  | 33, _ => r_tableAt 33 (off := 1227) (tgt := 1259) dL_law_32 rfl (by decide) (by decide) rfl (by decide) (lc_33 g hL hi kk S hS h)
  | 34, _ => r_tableAt 34 (off := 1250) (tgt := 1282) dL_law_32 rfl (by decide) (by decide) rfl (by decide) (lc_34 g hL hi kk S hS h)
  | 35, _ => r_tableAt 35 (off := 1303) (tgt := 1335) dL_law_32 rfl (by decide) (by decide) rfl (by decide) (lc_35 g hL hi kk S hS h)
  | 36, _ => r_tableAt 36 (off := 1346) (tgt := 1378) dL_law_32 rfl (by decide) (by decide) rfl (by decide) (lc_36 g hL hi kk S hS h)
  | 37, _ => r_tableAt 37 (off := 1389) (tgt := 1421) dL_law_32 rfl (by decide) (by decide) rfl (by decide) (lc_37 g hL hi kk S hS h)
  | 38, _ => r_tableAt 38 (off := 1432) (tgt := 1464) dL_law_32 rfl (by decide) (by decide) rfl (by decide) (lc_38 g hL hi kk S hS h)
  | 39, _ => r_tableAt 39 (off := 1475) (tgt := 1507) dL_law_32 rfl (by decide) (by decide) rfl (by decide) (lc_39 g hL hi kk S hS h)
  | 40, _ => r_tableAt 40 (off := 1508) (tgt := 1540) dL_law_32 rfl (by decide) (by decide) rfl (by decide) (lc_40 g hL hi kk S hS h)
  | 41, _ => r_tableAt 41 (off := 1551) (tgt := 1583) dL_law_32 rfl (by decide) (by decide) rfl (by decide) (lc_41 g hL hi kk S hS h)
  | 42, _ => r_tableAt 42 (off := 1574) (tgt := 1606) dL_law_32 rfl (by decide) (by decide) rfl (by decide) (lc_42 g hL hi kk S hS h)
  | 43, _ => r_tableAt 43 (off := 1597) (tgt := 1629) dL_law_32 rfl (by decide) (by decide) rfl (by decide) (lc_43 g hL hi kk S hS h)
  | 44, _ => r_tableAt 44 (off := 1610) (tgt := 1642) dL_law_32 rfl (by decide) (by decide) rfl (by decide) (lc_44 g hL hi kk S hS h)
  | n + 45, hn => r_tableOut (tgt := 1655) dL_law_32 (Or.inr (by rw [nI_toInt (by omega)]; omega)) (by decide) (kk S hS h)
theorem law_loop (g : pG) {L : Nat} {xs : Nat → Int32} (hL : L ≤ 2560) : ∀ (f i : Nat), L < i + f → i ≤ L → Go g L xs 18 i := by
  intro f
  induction f with
  | zero => intro i h1 h2; exact absurd h1 (by omega)
  | succ f ih =>
    intro i h1 h2 S hS h
    refine r_iload_n dL_law_18 rfl rfl ?_
    refine r_aload_n dL_law_19 rfl rfl ?_
    refine r_slen dL_law_20 ?_
    refine r_iconst (v := 5) dL_law_21 (by decide) ?_
    refine r_isub dL_law_22 ?_
    refine r_icmp_gt (tgt := 1661) dL_law_23 (by decide) (fun c => ?_) (fun c => ?_)
    · refine r_iconst (v := 1) dL_law_1661 (by decide) ?_
      exact r_lawret dL_law_1662 (Nat.le_of_ble_eq_true rfl) (Nat.le_of_ble_eq_true rfl)
    · have hi : i + 5 ≤ L := by
        rw [show (5 : Int32) = nI 5 from rfl, Int32.lt_iff_toInt_lt, pk_sub_toInt (by omega) (by omega), nI_toInt (by omega)] at c
        omega
      refine r_aload_n dL_law_26 rfl rfl ?_
      refine r_iload_n dL_law_27 rfl rfl ?_
      refine r_sld (j := i) dL_law_28 rfl (by omega) hL ?_
      refine r_bipush (v := 63) dL_law_29 (by decide) ?_
      refine r_iand dL_law_31 ?_
      obtain ⟨j, hj, ej⟩ := and63 (xs i)
      rw [ej]
      refine law_sw g hL hi (fun S2 ok2 rs2 => ?_) hS h j hj
      refine r_iinc (v := nI (i + 5)) dL_law_1655 rfl (nI_add i 5) (by decide) ?_
      refine r_goto (tgt := 18) dL_law_1658 (by decide) ?_
      exact PW.subL (ih (i + 5) (by omega) hi S2 ok2 rs2) (by repeat' first | exact True.intro | refine And.intro rfl ?_)
theorem law_body (g : pG) {L : Nat} {xs : Nat → Int32} (hL : L ≤ 2560) : PW g mL (eL g L xs) 0 (enL 4 [.ref 3000]) [] (Nw 0 [] (fun _ _ => 0)) 0 0 := by
  refine n_new (ci := 11) (w := 15) dL_law_0 (by decide) rfl cl_L_7 nw_X11 in_X11 (by decide) (Nat.le_of_ble_eq_true rfl) (Nat.le_of_ble_eq_true rfl) rfl rfl rfl ?_
  refine r_dup dL_law_3 rfl ?_
  refine r_callIm_eV dL_law_4 (s_X11_init g (M := fun _ _ => 0) (fun _ => rfl)) mf_X11_init mi_X11_init ml_L_9 rfl rfl rfl rfl (Nat.le_of_ble_eq_true rfl) ⟨(Nat.le_of_ble_eq_true rfl), (Nat.le_of_ble_eq_true rfl)⟩ ⟨(Nat.le_of_ble_eq_true rfl), (Nat.le_of_ble_eq_true rfl)⟩ (fun S_4 q_4 z_4 => ?_)
  obtain ⟨M1, rfl, g1, v1, v10, v19, z1, m1⟩ := q_4
  refine r_astore_n dL_law_7 rfl (by decide) ?_
  refine n_new (ci := 12) (w := 27) dL_law_8 (by decide) rfl cl_L_10 nw_X12 in_X12 (by decide) (Nat.le_of_ble_eq_true rfl) (Nat.le_of_ble_eq_true rfl) rfl (rSL_all _ (by decide +kernel)) (g1 54 (by omega)) ?_
  refine r_dup dL_law_11 rfl ?_
  refine r_callIm_eV dL_law_12 (s_X12_init g g1) mf_X12_init mi_X12_init ml_L_12 rfl rfl rfl rfl (Nat.le_of_ble_eq_true rfl) ⟨(Nat.le_of_ble_eq_true rfl), (Nat.le_of_ble_eq_true rfl)⟩ ⟨(Nat.le_of_ble_eq_true rfl), (Nat.le_of_ble_eq_true rfl)⟩ (fun S_12 q_12 z_12 => ?_)
  obtain ⟨M2, rfl, lo, h55, h62, h65, h68, z2⟩ := q_12
  refine r_astore_n dL_law_15 rfl (by decide) ?_
  refine r_iconst (v := 0) dL_law_16 (by decide) ?_
  refine r_istore_n dL_law_17 rfl (by decide) ?_
  exact PW.subL (law_loop g hL (L + 1) 0 (by omega) (by omega) (Gs M2) ⟨rfl, rfl, rfl⟩ (start_RS v1 v10 z1 m1 lo h55 h62 h65 h68 z2)) (by repeat' first | exact True.intro | refine And.intro rfl ?_)
