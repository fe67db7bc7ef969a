/-! ===== constant texts: String.length, charAt ===== -/
theorem KC.str {g : pG} {U : State} (h : KC g U) : vk_S 14 sLn sBy (fun i => gad g (1000 + i)) (fun i => gad g (1100 + i)) (pA g) U U.heap := h.2.1
theorem r_getSv {g : pG} {M : pM} {E : pE} {pc : Nat} {L : pL} {st : List Value} {S : pS} {k n : Nat} {idx k0 : Nat} (hk : k0 < 14) (d : decode M.2.1 pc = .ok (.getfield idx, 3)) (hl : Cond.fieldLink M.1.cls idx "java/lang/String" "value" "[B" ∈ gT) (kk : PW g M E (pc + 3) L (.ref (1100 + k0) :: st) S k n) : PW g M E pc L (.ref (1000 + k0) :: st) S k n := by
  intro p e s m args below meth c H locs ls hF hW hN hS hL
  exact vk_getf hF.1 hF.2.1 (hF.K.str.1 k0 hk).2.2.1 hS hF.own (hF.w hl) (fun _ h => h) d (kk p e s m args below meth c H locs ls hF hW hN hS hL)
theorem r_getSc {g : pG} {M : pM} {E : pE} {pc : Nat} {L : pL} {st : List Value} {S : pS} {k n : Nat} {idx k0 : Nat} (hk : k0 < 14) (d : decode M.2.1 pc = .ok (.getfield idx, 3)) (hl : Cond.fieldLink M.1.cls idx "java/lang/String" "coder" "B" ∈ gT) (kk : PW g M E (pc + 3) L (.int 0 :: st) S k n) : PW g M E pc L (.ref (1000 + k0) :: st) S k n := by
  intro p e s m args below meth c H locs ls hF hW hN hS hL
  exact vk_getf hF.1 hF.2.1 (hF.K.str.1 k0 hk).2.1 hS hF.own (hF.w hl) (fun _ h => h) d (kk p e s m args below meth c H locs ls hF hW hN hS hL)
theorem r_getsZ {g : pG} {M : pM} {E : pE} {pc : Nat} {L : pL} {st : List Value} {S : pS} {k n : Nat} {idx : Nat} (d : decode M.2.1 pc = .ok (.getstatic idx, 3)) (hl : Cond.fieldLink M.1.cls idx "java/lang/String" "COMPACT_STRINGS" "Z" ∈ gT) (kk : PW g M E (pc + 3) L (.int 1 :: st) S k n) : PW g M E pc L st S k n := by
  intro p e s m args below meth c H locs ls hF hW hN hS hL
  exact va_gets hF.1 hF.2.1 hF.K.2.2.2.1 hS hF.own (hF.w hl) (fun _ h => h) d (kk p e s m args below meth c H locs ls hF hW hN hS hL)
theorem r_alenS {g : pG} {M : pM} {E : pE} {pc : Nat} {L : pL} {st : List Value} {S : pS} {k n : Nat} {k0 : Nat} (hk : k0 < 14) (d : decode M.2.1 pc = .ok (.arraylength, 1)) (kk : PW g M E (pc + 1) L (.int (nI (sLn.getD k0 0)) :: st) S k n) : PW g M E pc L (.ref (1100 + k0) :: st) S k n := by
  intro p e s m args below meth c H locs ls hF hW hN hS hL
  exact va_tlen (v := nI (sLn.getD k0 0)) hF.1 hF.2.1 (hF.K.str.1 k0 hk).2.2.2 hS rfl d (kk p e s m args below meth c H locs ls hF hW hN hS hL)
theorem sLn_le {k0 : Nat} (hk : k0 < 14) : sLn.getD k0 0 ≤ 8 := by
  have H : ∀ q : Fin 14, sLn.getD q.1 0 ≤ 8 := by decide
  exact H ⟨k0, hk⟩
def sChr (k j : Nat) : Int32 := (sBy.getD k []).getD j 0
theorem r_baldS {g : pG} {M : pM} {E : pE} {pc : Nat} {L : pL} {st : List Value} {S : pS} {k n : Nat} {k0 j : Nat} (hk : k0 < 14) (hj : j < sLn.getD k0 0) (d : decode M.2.1 pc = .ok (.baload, 1)) (kk : PW g M E (pc + 1) L (.int (sChr k0 j) :: st) S k n) : PW g M E pc L (.int (nI j) :: .ref (1100 + k0) :: st) S k n := by
  intro p e s m args below meth c H locs ls hF hW hN hS hL
  have h8 := sLn_le hk
  exact va_tb hF.1 hF.2.1 (hF.K.str.1 k0 hk).2.2.2 hS (vp_in_nI hj (by omega)) (v := .int (sChr k0 j)) (by rw [nI_clamp (by omega)]; rfl) d (kk p e s m args below meth c H locs ls hF hW hN hS hL)
theorem pre_Vs {g : pG} {av : List Value} {S : pS} {s : State} {H : Heap} {locs : List Loc} {k0 : Nat} (hW : Wd g S s H) (hK : KC g s) (hS : va_S (pA g) s.heap H locs) (hz : H.size = gad g S.1) (hk : k0 < 14) : PreV s H "java/lang/String" (gad g (1000 + k0)) (pP g (.ref (1000 + k0) :: av) S) (av.map (vr (gad g))) :=
  ⟨pP_blind, vk_recv (adK := fun i => gad g (1000 + i)) (i := k0) hK.str hk hS, (pre_S (av := .ref (1000 + k0) :: av) hW hK hS hz).2⟩
theorem r_callStr {g : pG} {M M2 : pM} {E : pE} {pc : Nat} {L : pL} {st av stk : List Value} {S : pS} {k n d2 n2 idx : Nat} {rx : Int32} {k0 : Nat} (d : decode M.2.1 pc = .ok (.invokevirtual idx, 3)) (hM : MS g M2 d2 0 0 (.ref (1000 + k0) :: av) S (dI rx S)) (hf : mF M2 n2) (hi : Cond.instanceMethod M2.1 ∈ gT) (hse : Cond.selects "java/lang/String" M2.1 M2.1 ∈ gT) (hl : Cond.methodLink M.1.cls idx M2.1 ∈ gT) (hn : av.length = n2) (hst : stk = av.reverse ++ .ref (1000 + k0) :: st) (hk : k0 < 14) (hC : M2.1.cls = "java/lang/String") (hsum : (st.map fun v => v.category).sum ≤ 8) (hR : d2 + 1 ≤ E.1.frames ∧ 8 + (M2.2.2.1 + 11) + 200 * d2 ≤ E.1.locals) (hcs : k + 0 ≤ E.1.cells ∧ n + 0 ≤ E.1.slots) (kk : PW g M E (pc + 3) L (.int rx :: st) S k n) : PW g M E pc L stk S k n := by
  intro p e s m args below meth c H locs ls hF hW hN hS hL
  subst hst
  have hcat := lv_room (m := m) (pc := pc) (ls := ls) (rest := (av.reverse ++ .ref (1000 + k0) :: st).map (vr (gad g))) (cat_map (ad := gad g) hsum)
  intro T hT X
  have hz := hW.size hF.lo hN hS hT X
  have hr : va_Run p g.1 e E.1 s m args below meth c H locs k n 0 0 (F0 m pc ls ((av.reverse ++ .ref (1000 + k0) :: st).map (vr (gad g)))) (st.map (vr (gad g))) (pQ g S.1 0 (dI rx S) _) (pA g) := va_runV (C := "java/lang/String") (As := av.map (vr (gad g))) hF.fix hM (cwV n2 hF.2.2.2.2.2.1 (good_app hf.1 (by intro w hw; simp only [List.mem_cons, List.not_mem_nil, or_false] at hw; rcases hw with rfl | rfl | rfl | rfl; exact hl; exact hi; exact hse; exact hC ▸ hf.2.1)) rfl rfl rfl ⟨hC, hf.2.2⟩ hR) (pre_Vs hW hF.K hS hz hk) rfl (by rw [List.length_map]; exact hn) hL.1 (by simp [vr]) hcat d hcs
  exact r_after hr hN hW.1 hW.2.1 hS (fun v S' H1 locs1 hp hW1 hS1 hN1 hSS => by obtain ⟨rfl, rfl⟩ := hp; exact kk p e s m args below meth c H1 locs1 ls hF hW1 hN1 hSS hL) T hT X
/-! the check of an index: its last argument is a value that nothing is asked of -/
theorem met_J3 {g : pG} {S : pS} {x y : Int32} {w : Value} (hw : w.category = 1) (h : PW g mJ3_checkIndex_8e157 (eN g S.1 0 0 0 (dI x S)) 0 [some (.int x), some (.int y), none] [] S 0 0) : Met g.1 mJ3_checkIndex_8e157.1 (wsM mJ3_checkIndex_8e157) (rmd 0 0 0) (va_Pc [.int x, .int y, w] (fun U => Wd g S U U.heap ∧ KC g U ∧ U.heap.size = gad g S.1)) (pQ g S.1 0 (dI x S)) 0 0 (pA g) := by
  refine Met.ofW (cc := mJ3_checkIndex_8e157.2.1) (maxL := mJ3_checkIndex_8e157.2.2.1) (ret := mJ3_checkIndex_8e157.2.2.2) (ws' := gT) pn_J3 rfl ?_
  intro p e s m args below meth c s₁ B hml hv
  obtain ⟨rfl, hW, hK, hz⟩ := hv
  have hts := atoms_spec (ws := wsM mJ3_checkIndex_8e157) B.pre
  have hown : s.vm.findClass mJ3_checkIndex_8e157.1.cls = some m.cls := findClass_of_methodNamed B.named
  have hin : meth.name = mJ3_checkIndex_8e157.1.name := (name_of_methodNamed B.named B.method).1
  have hsz : gad g 0 ≤ s.heap.size := by rw [hz, hW.1 S.1 (by have := hW.2.1; omega)]; omega
  have hl := lv_entry [Value.int x, Value.int y, w] (n := mJ3_checkIndex_8e157.2.2.1) (by simp [lg_sl, hw]; exact Nat.le_refl _)
  rw [lg_entry_eq]
  refine h p e s m _ below meth c s.heap [] _ ⟨B.exec, B.bytes, B.returns, hml, hown, hts, B.notSynchronized, hin, ⟨hz, hW.2.1⟩, hK, hsz⟩ hW hz va_S.rf ⟨hl.1, hl.2.1, fun q hq => hl.2.2 q ?_⟩
  simp only [lvF, List.mem_cons, List.not_mem_nil, or_false] at hq
  rcases hq with rfl | rfl
  · simp [lv_args, vr, Value.category]
  · simp [lv_args, vr, Value.category]
theorem r_ck {g : pG} {M : pM} {E : pE} {pc : Nat} {L : pL} {st : List Value} {S : pS} {k n i1 i2 : Nat} {x y : Int32} (d1 : decode M.2.1 pc = .ok (.getstatic i1, 3)) (hl1 : Cond.fieldLink M.1.cls i1 "jdk/internal/util/Preconditions" "SIOOBE_FORMATTER" "Ljava/util/function/BiFunction;" ∈ gT) (d2 : decode M.2.1 (pc + 3) = .ok (.invokestatic i2, 3)) (hl2 : Cond.methodLink M.1.cls i2 mJ3_checkIndex_8e157.1 ∈ gT)
    (h : PW g mJ3_checkIndex_8e157 (eN g S.1 0 0 0 (dI x S)) 0 [some (.int x), some (.int y), none] [] S 0 0) (hsum : (st.map fun v => v.category).sum ≤ 8) (hR : 0 + 1 ≤ E.1.frames ∧ 8 + (3 + 11) + 200 * 0 ≤ E.1.locals) (hcs : k + 0 ≤ E.1.cells ∧ n + 0 ≤ E.1.slots)
    (kk : PW g M E (pc + 6) L (.int x :: st) S k n) : PW g M E pc L (.int y :: .int x :: st) S k n := by
  intro p e s m args below meth c H locs ls hF hW hN hS hL
  have go : ∀ w : Value, w.category = 1 → W p g.1 e E.1 s m args below meth c H locs k n (E.2.2 below args s) (F0 m (pc + 3) ls (w :: ((Value.int y :: .int x :: st).map (vr (gad g))))) := by
    intro w hw
    have hcat := lv_room (m := m) (pc := pc + 3) (ls := ls) (rest := w :: ((Value.int y :: .int x :: st).map (vr (gad g)))) (cat_map (ad := gad g) hsum)
    intro T hT X
    have hz := hW.size hF.lo hN hS hT X
    have hr : va_Run p g.1 e E.1 s m args below meth c H locs k n 0 0 (F0 m (pc + 3) ls (w :: ((Value.int y :: .int x :: st).map (vr (gad g))))) (st.map (vr (gad g))) (pQ g S.1 0 (dI x S) _) (pA g) := va_runS (As := [Value.int x, Value.int y, w]) hF.fix (met_J3 hw h) (va_cwS 3 hF.2.2.2.2.2.1 (good_app mf_J3_checkIndex_8e157.1 (by intro w hw; simp only [List.mem_cons, List.not_mem_nil, or_false] at hw; rcases hw with rfl | rfl | rfl; exact hl2; exact mt_J3_checkIndex_8e157; exact mf_J3_checkIndex_8e157.2.1)) rfl rfl rfl mf_J3_checkIndex_8e157.2.2 hR)
      ⟨fun a U gg mk h => ⟨h.1, h.2.1.moved (Vm.Alike.refl U.vm), h.2.2.1.warm (State.WarmedH.refl _) ⟨Nat.le_refl _, fun _ _ _ => rfl⟩, h.2.2.2⟩, fun U hU hWm => ⟨rfl, by rw [hU]; exact hW.moved hWm.alike, hF.K.warm hWm (by rw [hU]; exact ⟨hS.1, hS.2.1⟩), by rw [hU]; exact hz⟩⟩ rfl rfl hL.1 (by simp [vr]) hcat d2 hcs
    exact r_after hr hN hW.1 hW.2.1 hS (fun v S' H1 locs1 hp hW1 hS1 hN1 hSS => by obtain ⟨rfl, rfl⟩ := hp; exact kk p e s m args below meth c H1 locs1 ls hF hW1 hN1 hSS hL) T hT X
  rcases hF.K.2.2.2.2.1 with hz | ⟨t, hz⟩
  · exact va_gets hF.1 hF.2.1 hz hS hF.own (hF.w hl1) (fun _ h => h) d1 (go _ rfl)
  · exact va_gets hF.1 hF.2.1 hz hS hF.own (hF.w hl1) (fun _ h => h) d1 (go _ rfl)
theorem s_J3 (g : pG) (S : pS) {j n : Nat} (hj : j < n) (hn : n < 2 ^ 31) : PW g mJ3_checkIndex_8e157 (eN g S.1 0 0 0 (dI (nI j) S)) 0 [some (.int (nI j)), some (.int (nI n)), none] [] S 0 0 := by
  refine r_iload_n dJ3_checkIndex_8e157_0 rfl rfl ?_
  refine r_if_lt (tgt := 9) dJ3_checkIndex_8e157_1 (by decide) (fun c_1 => ?_) (fun c_1 => ?_)
  · exact absurd c_1 (nI_pos (by omega))
  refine r_iload_n dJ3_checkIndex_8e157_4 rfl rfl ?_
  refine r_iload_n dJ3_checkIndex_8e157_5 rfl rfl ?_
  refine r_icmp_ltN (j) (n) (tgt := 16) dJ3_checkIndex_8e157_6 (by decide) (by omega) (by omega) (fun c_6 => ?_) (fun c_6 => ?_)
  · refine r_iload_n dJ3_checkIndex_8e157_16 rfl rfl ?_
    refine r_iret dJ3_checkIndex_8e157_17 rfl (Nat.le_refl _) ?_
    exact ⟨rfl, rfl⟩
  · exact absurd hj (by omega)
theorem s_J0_checkIndex (g : pG) (S : pS) {j n : Nat} (hj : j < n) (hn : n < 2 ^ 31) : MS g mJ0_checkIndex_df160 1 0 0 [.int (nI j), .int (nI n)] S (dV S) := by
  refine MS.of pn_J0 (Nat.le_of_ble_eq_true rfl) ?_
  refine r_iload_n dJ0_checkIndex_df160_0 rfl rfl ?_
  refine r_iload_n dJ0_checkIndex_df160_1 rfl rfl ?_
  refine r_ck dJ0_checkIndex_df160_2 fl_J0_1053 dJ0_checkIndex_df160_5 ml_J0_1059 (s_J3 g S hj hn) (Nat.le_of_ble_eq_true rfl) ⟨(Nat.le_of_ble_eq_true rfl), (Nat.le_of_ble_eq_true rfl)⟩ ⟨(Nat.le_of_ble_eq_true rfl), (Nat.le_of_ble_eq_true rfl)⟩ ?_
  refine r_pop dJ0_checkIndex_df160_8 rfl ?_
  refine r_vret dJ0_checkIndex_df160_9 rfl (Nat.le_refl _) ?_
  exact ⟨rfl, rfl⟩
theorem s_J0_coder (g : pG) (S : pS) {k0 : Nat} (hk : k0 < 14) : MS g mJ0_coder_7d493 1 0 0 [.ref (1000 + k0)] S (dI 0 S) := by
  refine MS.of pn_J0 (Nat.le_of_ble_eq_true rfl) ?_
  refine r_getsZ dJ0_coder_7d493_0 fl_J0_38 ?_
  refine r_if_eq (tgt := 13) dJ0_coder_7d493_3 (by decide) (fun c => absurd c (by decide)) (fun _ => ?_)
  refine r_aload_n dJ0_coder_7d493_6 rfl rfl ?_
  refine r_getSc hk dJ0_coder_7d493_7 fl_J0_15 ?_
  refine r_goto (tgt := 14) dJ0_coder_7d493_10 (by decide) ?_
  refine r_zret dJ0_coder_7d493_14 rfl rfl (Nat.le_refl _) ?_
  exact ⟨rfl, rfl⟩
theorem s_J0_isLatin1 (g : pG) (S : pS) {k0 : Nat} (hk : k0 < 14) : MS g mJ0_isLatin1_aae02 1 0 0 [.ref (1000 + k0)] S (dI 1 S) := by
  refine MS.of pn_J0 (Nat.le_of_ble_eq_true rfl) ?_
  refine r_getsZ dJ0_isLatin1_aae02_0 fl_J0_38 ?_
  refine r_if_eq (tgt := 17) dJ0_isLatin1_aae02_3 (by decide) (fun c => absurd c (by decide)) (fun _ => ?_)
  refine r_aload_n dJ0_isLatin1_aae02_6 rfl rfl ?_
  refine r_getSc hk dJ0_isLatin1_aae02_7 fl_J0_15 ?_
  refine r_if_ne (tgt := 17) dJ0_isLatin1_aae02_10 (by decide) (fun c => absurd rfl c) (fun _ => ?_)
  refine r_iconst (v := 1) dJ0_isLatin1_aae02_13 (by decide) ?_
  refine r_goto (tgt := 18) dJ0_isLatin1_aae02_14 (by decide) ?_
  refine r_zret dJ0_isLatin1_aae02_18 rfl rfl (Nat.le_refl _) ?_
  exact ⟨rfl, rfl⟩
theorem s_J0_length (g : pG) (S : pS) {k0 : Nat} (hk : k0 < 14) : MS g mJ0_length_8abf5 2 0 0 [.ref (1000 + k0)] S (dI (nI (sLn.getD k0 0)) S) := by
  refine MS.of pn_J0 (Nat.le_of_ble_eq_true rfl) ?_
  refine r_aload_n dJ0_length_8abf5_0 rfl rfl ?_
  refine r_getSv hk dJ0_length_8abf5_1 fl_J0_9 ?_
  refine r_alenS hk dJ0_length_8abf5_4 ?_
  refine r_aload_n dJ0_length_8abf5_5 rfl rfl ?_
  refine r_callStr dJ0_length_8abf5_6 (s_J0_coder g S hk) mf_J0_coder_7d493 mi_J0_coder_7d493 se_J0_J0_J0_coder_7d493 ml_J0_335 rfl rfl hk rfl (Nat.le_of_ble_eq_true rfl) ⟨(Nat.le_of_ble_eq_true rfl), (Nat.le_of_ble_eq_true rfl)⟩ ⟨(Nat.le_of_ble_eq_true rfl), (Nat.le_of_ble_eq_true rfl)⟩ ?_
  refine r_ishr dJ0_length_8abf5_9 ?_
  refine r_iret dJ0_length_8abf5_10 rfl (Nat.le_refl _) ?_
  refine ⟨congrArg (fun y => some (Value.int y)) ?_, rfl⟩
  have H : ∀ q : Fin 14, nI (sLn.getD q.1 0) >>> ((0 : Int32) &&& 31) = nI (sLn.getD q.1 0) := by decide +kernel
  exact H ⟨k0, hk⟩
theorem s_J1_charAt (g : pG) (S : pS) {k0 j : Nat} (hk : k0 < 14) (hj : j < sLn.getD k0 0) : MS g mJ1_charAt_3b067 2 0 0 [.ref (1100 + k0), .int (nI j)] S (dI (sChr k0 j) S) := by
  have h8 := sLn_le hk
  refine MS.of pn_J1 (Nat.le_of_ble_eq_true rfl) ?_
  refine r_iload_n dJ1_charAt_3b067_0 rfl rfl ?_
  refine r_aload_n dJ1_charAt_3b067_1 rfl rfl ?_
  refine r_alenS hk dJ1_charAt_3b067_2 ?_
  refine r_callS_dV dJ1_charAt_3b067_3 (s_J0_checkIndex g S hj (by omega)) mf_J0_checkIndex_df160 mt_J0_checkIndex_df160 ml_J1_9 rfl rfl (Nat.le_of_ble_eq_true rfl) ⟨(Nat.le_of_ble_eq_true rfl), (Nat.le_of_ble_eq_true rfl)⟩ ⟨(Nat.le_of_ble_eq_true rfl), (Nat.le_of_ble_eq_true rfl)⟩ ?_
  refine r_aload_n dJ1_charAt_3b067_6 rfl rfl ?_
  refine r_iload_n dJ1_charAt_3b067_7 rfl rfl ?_
  refine r_baldS hk hj dJ1_charAt_3b067_8 ?_
  refine r_sipush (v := 255) dJ1_charAt_3b067_9 (by decide) ?_
  refine r_iand dJ1_charAt_3b067_12 ?_
  refine r_i2c dJ1_charAt_3b067_13 rfl ?_
  have e : ((sChr k0 j &&& 255).toUInt32 % 65536).toInt32 = sChr k0 j := by
    have H : ∀ q : Fin 14, ∀ z : Fin 8, ((sChr q.1 z.1 &&& 255).toUInt32 % 65536).toInt32 = sChr q.1 z.1 := by decide +kernel
    exact H ⟨k0, hk⟩ ⟨j, by omega⟩
  rw [e]
  refine r_zret dJ1_charAt_3b067_14 rfl ?_ (Nat.le_refl _) ?_
  · have H : ∀ q : Fin 14, ∀ z : Fin 8, ∃ r : Nat, r < 65536 ∧ sChr q.1 z.1 = nI r := by
      intro q z
      have H2 : ∀ q : Fin 14, ∀ z : Fin 8, sChr q.1 z.1 = nI (cl (sChr q.1 z.1)) ∧ cl (sChr q.1 z.1) < 65536 := by decide +kernel
      exact ⟨_, (H2 q z).2, (H2 q z).1⟩
    obtain ⟨r, hr, er⟩ := H ⟨k0, hk⟩ ⟨j, by omega⟩
    have er : sChr k0 j = nI r := er
    rw [er]
    exact (pk_charN hr).1
  exact ⟨rfl, rfl⟩
theorem s_J0_charAt (g : pG) (S : pS) {k0 j : Nat} (hk : k0 < 14) (hj : j < sLn.getD k0 0) : MS g mJ0_charAt_5068e 3 0 0 [.ref (1000 + k0), .int (nI j)] S (dI (sChr k0 j) S) := by
  refine MS.of pn_J0 (Nat.le_of_ble_eq_true rfl) ?_
  refine r_aload_n dJ0_charAt_5068e_0 rfl rfl ?_
  refine r_callStr dJ0_charAt_5068e_1 (s_J0_isLatin1 g S hk) mf_J0_isLatin1_aae02 mi_J0_isLatin1_aae02 se_J0_J0_J0_isLatin1_aae02 ml_J0_492 rfl rfl hk rfl (Nat.le_of_ble_eq_true rfl) ⟨(Nat.le_of_ble_eq_true rfl), (Nat.le_of_ble_eq_true rfl)⟩ ⟨(Nat.le_of_ble_eq_true rfl), (Nat.le_of_ble_eq_true rfl)⟩ ?_
  refine r_if_eq (tgt := 16) dJ0_charAt_5068e_4 (by decide) (fun c => absurd c (by decide)) (fun _ => ?_)
  refine r_aload_n dJ0_charAt_5068e_7 rfl rfl ?_
  refine r_getSv hk dJ0_charAt_5068e_8 fl_J0_9 ?_
  refine r_iload_n dJ0_charAt_5068e_11 rfl rfl ?_
  refine r_callS_dI dJ0_charAt_5068e_12 (s_J1_charAt g S hk hj) mf_J1_charAt_3b067 mt_J1_charAt_3b067 ml_J0_495 rfl rfl (Nat.le_of_ble_eq_true rfl) ⟨(Nat.le_of_ble_eq_true rfl), (Nat.le_of_ble_eq_true rfl)⟩ ⟨(Nat.le_of_ble_eq_true rfl), (Nat.le_of_ble_eq_true rfl)⟩ ?_
  refine r_zret dJ0_charAt_5068e_15 rfl ?_ (Nat.le_refl _) ?_
  · have h8 := sLn_le hk
    have H2 : ∀ q : Fin 14, ∀ z : Fin 8, sChr q.1 z.1 = nI (cl (sChr q.1 z.1)) ∧ cl (sChr q.1 z.1) < 65536 := by decide +kernel
    have h2 := H2 ⟨k0, hk⟩ ⟨j, by omega⟩
    have e1 : sChr k0 j = nI (cl (sChr k0 j)) := h2.1
    rw [e1]
    exact (pk_charN h2.2).1
  exact ⟨rfl, rfl⟩
