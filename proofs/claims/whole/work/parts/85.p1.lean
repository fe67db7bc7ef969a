/-! ===== how the tape is read, on the other side ===== -/
def tcS (M : Nat → Nat → Int32) (a : Nat) (f : Int32) : Nat → Nat → Int32 := fun q => if q = 29 then (fun x => if x = 2 then nI a else if x = 3 then f else M 29 x) else M q
theorem tc_a {M : Nat → Nat → Int32} {a : Nat} {f : Int32} : (Gs (tcS M a f)).2.2.2 29 2 = nI a := rfl
theorem tc_f {M : Nat → Nat → Int32} {a : Nat} {f : Int32} : (Gs (tcS M a f)).2.2.2 29 3 = f := rfl
theorem tc_sa {M : Nat → Nat → Int32} {a x : Nat} {f : Int32} : mSet (Gs (tcS M a f)) 29 2 (nI x) = Gs (tcS M x f) := by
  refine congrArg (fun f => ((71, sh0, rf0, f) : pS)) ?_
  funext q y
  by_cases h : q = 29
  · subst h
    show upd (fun x => if x = 2 then nI a else if x = 3 then f else M 29 x) 2 (nI x) y = (if y = 2 then nI x else if y = 3 then f else M 29 y)
    unfold upd
    by_cases h2 : y = 2
    · rw [if_pos h2, if_pos h2]
    · rw [if_neg h2, if_neg h2]
      show (if y = 2 then nI a else if y = 3 then f else M 29 y) = _
      rw [if_neg h2]
  · show (if q = 29 then _ else tcS M a f q) y = (if q = 29 then _ else M q) y
    rw [if_neg h, if_neg h]
    show (if q = 29 then _ else M q) y = M q y
    rw [if_neg h]
theorem tc_sf {M : Nat → Nat → Int32} {a : Nat} {f x : Int32} : mSet (Gs (tcS M a f)) 29 3 x = Gs (tcS M a x) := by
  refine congrArg (fun f => ((71, sh0, rf0, f) : pS)) ?_
  funext q y
  by_cases h : q = 29
  · subst h
    show upd (fun x => if x = 2 then nI a else if x = 3 then f else M 29 x) 3 x y = (if y = 2 then nI a else if y = 3 then x else M 29 y)
    unfold upd
    by_cases h2 : y = 3
    · subst h2; rfl
    · rw [if_neg h2, if_neg h2]
      show (if y = 2 then nI a else if y = 3 then f else M 29 y) = _
      rw [if_neg h2]
  · show (if q = 29 then _ else tcS M a f q) y = (if q = 29 then _ else M q) y
    rw [if_neg h, if_neg h]
    show (if q = 29 then _ else M q) y = M q y
    rw [if_neg h]
def blC (b : Nat → Int32) (n a : Nat) : Nat := runR isSp b n (201 - a) a
def flC (f x : Int32) : Int32 := if f = -1 then x else f
theorem blC_le {b : Nat → Int32} {n a : Nat} (h : a ≤ n) : blC b n a ≤ n := run_le (by decide) _ _ h
theorem byR_i {b : Nat → Int32} {n i : Nat} (h : i < n) : byR b n i = b i := if_pos h
set_option maxRecDepth 20000 in
set_option maxHeartbeats 1000000 in
theorem s_X8_isDigit (g : pG) (x : Int32) (S : pS) : MS g mX8_isDigit 1 0 0 [.int x] (S) (dI (bI (isDg x = true)) S) := by
  refine MS.of pn_X8 (Nat.le_of_ble_eq_true rfl) ?_
  refine r_iload_n dX8_isDigit_0 rfl rfl ?_
  refine r_bipush (v := 48) dX8_isDigit_1 (by decide) ?_
  refine r_icmp_lt (tgt := 16) dX8_isDigit_3 (by decide) (fun c_3 => ?_) (fun c_3 => ?_)
  · (try dsimp only [Gs_M] at c_3)
    refine r_iconst (v := 0) dX8_isDigit_16 (by decide) ?_
    refine r_zret dX8_isDigit_17 rfl rfl (Nat.le_refl _) ?_
    (try dsimp only [Gs_M])
    exact dI_f (fun z => Int32.not_lt.mpr (of_decide_eq_true z).1 c_3)
  · (try dsimp only [Gs_M] at c_3)
    refine r_iload_n dX8_isDigit_6 rfl rfl ?_
    refine r_bipush (v := 57) dX8_isDigit_7 (by decide) ?_
    refine r_icmp_gt (tgt := 16) dX8_isDigit_9 (by decide) (fun c_9 => ?_) (fun c_9 => ?_)
    · (try dsimp only [Gs_M] at c_9)
      refine r_iconst (v := 0) dX8_isDigit_16 (by decide) ?_
      refine r_zret dX8_isDigit_17 rfl rfl (Nat.le_refl _) ?_
      (try dsimp only [Gs_M])
      exact dI_f (fun z => Int32.not_lt.mpr (of_decide_eq_true z).2 c_9)
    · (try dsimp only [Gs_M] at c_9)
      refine r_iconst (v := 1) dX8_isDigit_12 (by decide) ?_
      refine r_goto (tgt := 17) dX8_isDigit_13 (by decide) ?_
      refine r_zret dX8_isDigit_17 rfl rfl (Nat.le_refl _) ?_
      (try dsimp only [Gs_M])
      exact dI_t (decide_eq_true ⟨Int32.not_lt.mp c_3, Int32.not_lt.mp c_9⟩)
set_option maxRecDepth 20000 in
set_option maxHeartbeats 1000000 in
theorem s_X8_isLetter (g : pG) (x : Int32) (S : pS) : MS g mX8_isLetter 1 0 0 [.int x] (S) (dI (bI (isLo x = true)) S) := by
  refine MS.of pn_X8 (Nat.le_of_ble_eq_true rfl) ?_
  refine r_iload_n dX8_isLetter_0 rfl rfl ?_
  refine r_bipush (v := 97) dX8_isLetter_1 (by decide) ?_
  refine r_icmp_lt (tgt := 16) dX8_isLetter_3 (by decide) (fun c_3 => ?_) (fun c_3 => ?_)
  · (try dsimp only [Gs_M] at c_3)
    refine r_iconst (v := 0) dX8_isLetter_16 (by decide) ?_
    refine r_zret dX8_isLetter_17 rfl rfl (Nat.le_refl _) ?_
    (try dsimp only [Gs_M])
    exact dI_f (fun z => Int32.not_lt.mpr (of_decide_eq_true z).1 c_3)
  · (try dsimp only [Gs_M] at c_3)
    refine r_iload_n dX8_isLetter_6 rfl rfl ?_
    refine r_bipush (v := 122) dX8_isLetter_7 (by decide) ?_
    refine r_icmp_gt (tgt := 16) dX8_isLetter_9 (by decide) (fun c_9 => ?_) (fun c_9 => ?_)
    · (try dsimp only [Gs_M] at c_9)
      refine r_iconst (v := 0) dX8_isLetter_16 (by decide) ?_
      refine r_zret dX8_isLetter_17 rfl rfl (Nat.le_refl _) ?_
      (try dsimp only [Gs_M])
      exact dI_f (fun z => Int32.not_lt.mpr (of_decide_eq_true z).2 c_9)
    · (try dsimp only [Gs_M] at c_9)
      refine r_iconst (v := 1) dX8_isLetter_12 (by decide) ?_
      refine r_goto (tgt := 17) dX8_isLetter_13 (by decide) ?_
      refine r_zret dX8_isLetter_17 rfl rfl (Nat.le_refl _) ?_
      (try dsimp only [Gs_M])
      exact dI_t (decide_eq_true ⟨Int32.not_lt.mp c_3, Int32.not_lt.mp c_9⟩)
set_option maxRecDepth 20000 in
set_option maxHeartbeats 1000000 in
theorem s_lo_0 (g : pG) (S : pS) : MS g mX8_lettersOf 1 0 0 [.int (nI 0)] (S) (dR 1000 S) := by
  refine MS.of pn_X8 (Nat.le_of_ble_eq_true rfl) ?_
  refine r_iload_n dX8_lettersOf_0 rfl rfl ?_
  refine r_tableAt (tgt := 68) 0 dX8_lettersOf_1 rfl (by decide) (by decide) rfl (by decide) ?_
  refine r_ldcS (k0 := 0) rfl (by decide) dX8_lettersOf_68 ?_
  refine r_aret dX8_lettersOf_70 rfl (Nat.le_refl _) ?_
  (try dsimp only [Gs_M])
  exact ⟨rfl, rfl⟩
set_option maxRecDepth 20000 in
set_option maxHeartbeats 1000000 in
theorem s_lo_1 (g : pG) (S : pS) : MS g mX8_lettersOf 1 0 0 [.int (nI 1)] (S) (dR 1001 S) := by
  refine MS.of pn_X8 (Nat.le_of_ble_eq_true rfl) ?_
  refine r_iload_n dX8_lettersOf_0 rfl rfl ?_
  refine r_tableAt (tgt := 71) 1 dX8_lettersOf_1 rfl (by decide) (by decide) rfl (by decide) ?_
  refine r_ldcS (k0 := 1) rfl (by decide) dX8_lettersOf_71 ?_
  refine r_aret dX8_lettersOf_73 rfl (Nat.le_refl _) ?_
  (try dsimp only [Gs_M])
  exact ⟨rfl, rfl⟩
set_option maxRecDepth 20000 in
set_option maxHeartbeats 1000000 in
theorem s_lo_2 (g : pG) (S : pS) : MS g mX8_lettersOf 1 0 0 [.int (nI 2)] (S) (dR 1002 S) := by
  refine MS.of pn_X8 (Nat.le_of_ble_eq_true rfl) ?_
  refine r_iload_n dX8_lettersOf_0 rfl rfl ?_
  refine r_tableAt (tgt := 74) 2 dX8_lettersOf_1 rfl (by decide) (by decide) rfl (by decide) ?_
  refine r_ldcS (k0 := 2) rfl (by decide) dX8_lettersOf_74 ?_
  refine r_aret dX8_lettersOf_76 rfl (Nat.le_refl _) ?_
  (try dsimp only [Gs_M])
  exact ⟨rfl, rfl⟩
set_option maxRecDepth 20000 in
set_option maxHeartbeats 1000000 in
theorem s_lo_3 (g : pG) (S : pS) : MS g mX8_lettersOf 1 0 0 [.int (nI 3)] (S) (dR 1003 S) := by
  refine MS.of pn_X8 (Nat.le_of_ble_eq_true rfl) ?_
  refine r_iload_n dX8_lettersOf_0 rfl rfl ?_
  refine r_tableAt (tgt := 77) 3 dX8_lettersOf_1 rfl (by decide) (by decide) rfl (by decide) ?_
  refine r_ldcS (k0 := 3) rfl (by decide) dX8_lettersOf_77 ?_
  refine r_aret dX8_lettersOf_79 rfl (Nat.le_refl _) ?_
  (try dsimp only [Gs_M])
  exact ⟨rfl, rfl⟩
set_option maxRecDepth 20000 in
set_option maxHeartbeats 1000000 in
theorem s_lo_4 (g : pG) (S : pS) : MS g mX8_lettersOf 1 0 0 [.int (nI 4)] (S) (dR 1004 S) := by
  refine MS.of pn_X8 (Nat.le_of_ble_eq_true rfl) ?_
  refine r_iload_n dX8_lettersOf_0 rfl rfl ?_
  refine r_tableAt (tgt := 80) 4 dX8_lettersOf_1 rfl (by decide) (by decide) rfl (by decide) ?_
  refine r_ldcS (k0 := 4) rfl (by decide) dX8_lettersOf_80 ?_
  refine r_aret dX8_lettersOf_82 rfl (Nat.le_refl _) ?_
  (try dsimp only [Gs_M])
  exact ⟨rfl, rfl⟩
set_option maxRecDepth 20000 in
set_option maxHeartbeats 1000000 in
theorem s_lo_5 (g : pG) (S : pS) : MS g mX8_lettersOf 1 0 0 [.int (nI 5)] (S) (dR 1005 S) := by
  refine MS.of pn_X8 (Nat.le_of_ble_eq_true rfl) ?_
  refine r_iload_n dX8_lettersOf_0 rfl rfl ?_
  refine r_tableAt (tgt := 83) 5 dX8_lettersOf_1 rfl (by decide) (by decide) rfl (by decide) ?_
  refine r_ldcS (k0 := 5) rfl (by decide) dX8_lettersOf_83 ?_
  refine r_aret dX8_lettersOf_85 rfl (Nat.le_refl _) ?_
  (try dsimp only [Gs_M])
  exact ⟨rfl, rfl⟩
set_option maxRecDepth 20000 in
set_option maxHeartbeats 1000000 in
theorem s_lo_6 (g : pG) (S : pS) : MS g mX8_lettersOf 1 0 0 [.int (nI 6)] (S) (dR 1006 S) := by
  refine MS.of pn_X8 (Nat.le_of_ble_eq_true rfl) ?_
  refine r_iload_n dX8_lettersOf_0 rfl rfl ?_
  refine r_tableAt (tgt := 86) 6 dX8_lettersOf_1 rfl (by decide) (by decide) rfl (by decide) ?_
  refine r_ldcS (k0 := 6) rfl (by decide) dX8_lettersOf_86 ?_
  refine r_aret dX8_lettersOf_88 rfl (Nat.le_refl _) ?_
  (try dsimp only [Gs_M])
  exact ⟨rfl, rfl⟩
set_option maxRecDepth 20000 in
set_option maxHeartbeats 1000000 in
theorem s_lo_7 (g : pG) (S : pS) : MS g mX8_lettersOf 1 0 0 [.int (nI 7)] (S) (dR 1007 S) := by
  refine MS.of pn_X8 (Nat.le_of_ble_eq_true rfl) ?_
  refine r_iload_n dX8_lettersOf_0 rfl rfl ?_
  refine r_tableAt (tgt := 89) 7 dX8_lettersOf_1 rfl (by decide) (by decide) rfl (by decide) ?_
  refine r_ldcS (k0 := 7) rfl (by decide) dX8_lettersOf_89 ?_
  refine r_aret dX8_lettersOf_91 rfl (Nat.le_refl _) ?_
  (try dsimp only [Gs_M])
  exact ⟨rfl, rfl⟩
set_option maxRecDepth 20000 in
set_option maxHeartbeats 1000000 in
theorem s_lo_8 (g : pG) (S : pS) : MS g mX8_lettersOf 1 0 0 [.int (nI 8)] (S) (dR 1008 S) := by
  refine MS.of pn_X8 (Nat.le_of_ble_eq_true rfl) ?_
  refine r_iload_n dX8_lettersOf_0 rfl rfl ?_
  refine r_tableAt (tgt := 92) 8 dX8_lettersOf_1 rfl (by decide) (by decide) rfl (by decide) ?_
  refine r_ldcS (k0 := 8) rfl (by decide) dX8_lettersOf_92 ?_
  refine r_aret dX8_lettersOf_94 rfl (Nat.le_refl _) ?_
  (try dsimp only [Gs_M])
  exact ⟨rfl, rfl⟩
set_option maxRecDepth 20000 in
set_option maxHeartbeats 1000000 in
theorem s_lo_9 (g : pG) (S : pS) : MS g mX8_lettersOf 1 0 0 [.int (nI 9)] (S) (dR 1009 S) := by
  refine MS.of pn_X8 (Nat.le_of_ble_eq_true rfl) ?_
  refine r_iload_n dX8_lettersOf_0 rfl rfl ?_
  refine r_tableAt (tgt := 95) 9 dX8_lettersOf_1 rfl (by decide) (by decide) rfl (by decide) ?_
  refine r_ldcS (k0 := 9) rfl (by decide) dX8_lettersOf_95 ?_
  refine r_aret dX8_lettersOf_97 rfl (Nat.le_refl _) ?_
  (try dsimp only [Gs_M])
  exact ⟨rfl, rfl⟩
set_option maxRecDepth 20000 in
set_option maxHeartbeats 1000000 in
theorem s_lo_10 (g : pG) (S : pS) : MS g mX8_lettersOf 1 0 0 [.int (nI 10)] (S) (dR 1010 S) := by
  refine MS.of pn_X8 (Nat.le_of_ble_eq_true rfl) ?_
  refine r_iload_n dX8_lettersOf_0 rfl rfl ?_
  refine r_tableAt (tgt := 98) 10 dX8_lettersOf_1 rfl (by decide) (by decide) rfl (by decide) ?_
  refine r_ldcS (k0 := 10) rfl (by decide) dX8_lettersOf_98 ?_
  refine r_aret dX8_lettersOf_100 rfl (Nat.le_refl _) ?_
  (try dsimp only [Gs_M])
  exact ⟨rfl, rfl⟩
set_option maxRecDepth 20000 in
set_option maxHeartbeats 1000000 in
theorem s_lo_11 (g : pG) (S : pS) : MS g mX8_lettersOf 1 0 0 [.int (nI 11)] (S) (dR 1011 S) := by
  refine MS.of pn_X8 (Nat.le_of_ble_eq_true rfl) ?_
  refine r_iload_n dX8_lettersOf_0 rfl rfl ?_
  refine r_tableAt (tgt := 101) 11 dX8_lettersOf_1 rfl (by decide) (by decide) rfl (by decide) ?_
  refine r_ldcS (k0 := 11) rfl (by decide) dX8_lettersOf_101 ?_
  refine r_aret dX8_lettersOf_103 rfl (Nat.le_refl _) ?_
  (try dsimp only [Gs_M])
  exact ⟨rfl, rfl⟩
set_option maxRecDepth 20000 in
set_option maxHeartbeats 1000000 in
theorem s_lo_12 (g : pG) (S : pS) : MS g mX8_lettersOf 1 0 0 [.int (nI 12)] (S) (dR 1012 S) := by
  refine MS.of pn_X8 (Nat.le_of_ble_eq_true rfl) ?_
  refine r_iload_n dX8_lettersOf_0 rfl rfl ?_
  refine r_tableAt (tgt := 104) 12 dX8_lettersOf_1 rfl (by decide) (by decide) rfl (by decide) ?_
  refine r_ldcS (k0 := 12) rfl (by decide) dX8_lettersOf_104 ?_
  refine r_aret dX8_lettersOf_106 rfl (Nat.le_refl _) ?_
  (try dsimp only [Gs_M])
  exact ⟨rfl, rfl⟩
set_option maxRecDepth 20000 in
set_option maxHeartbeats 1000000 in
theorem s_lo_13 (g : pG) (S : pS) : MS g mX8_lettersOf 1 0 0 [.int (nI 13)] (S) (dR 1013 S) := by
  refine MS.of pn_X8 (Nat.le_of_ble_eq_true rfl) ?_
  refine r_iload_n dX8_lettersOf_0 rfl rfl ?_
  refine r_tableOut (tgt := 107) dX8_lettersOf_1 (out_of2 (lo := 0) (n := 12) (by decide) (fun j hl hj => ?_)) (by decide) ?_
  · rcases (by omega : j = 0 ∨ j = 1 ∨ j = 2 ∨ j = 3 ∨ j = 4 ∨ j = 5 ∨ j = 6 ∨ j = 7 ∨ j = 8 ∨ j = 9 ∨ j = 10 ∨ j = 11 ∨ j = 12) with rfl | rfl | rfl | rfl | rfl | rfl | rfl | rfl | rfl | rfl | rfl | rfl | rfl
    · decide
    · decide
    · decide
    · decide
    · decide
    · decide
    · decide
    · decide
    · decide
    · decide
    · decide
    · decide
    · decide
  refine r_ldcS (k0 := 13) rfl (by decide) dX8_lettersOf_107 ?_
  refine r_aret dX8_lettersOf_109 rfl (Nat.le_refl _) ?_
  (try dsimp only [Gs_M])
  exact ⟨rfl, rfl⟩
theorem s_X8_lettersOf (g : pG) (k : Nat) (hk : k < 14) (S : pS) : MS g mX8_lettersOf 1 0 0 [.int (nI k)] S (dR (1000 + k) S) := by
  rcases (by omega : k = 0 ∨ k = 1 ∨ k = 2 ∨ k = 3 ∨ k = 4 ∨ k = 5 ∨ k = 6 ∨ k = 7 ∨ k = 8 ∨ k = 9 ∨ k = 10 ∨ k = 11 ∨ k = 12 ∨ k = 13) with rfl | rfl | rfl | rfl | rfl | rfl | rfl | rfl | rfl | rfl | rfl | rfl | rfl | rfl
  · exact s_lo_0 g S
  · exact s_lo_1 g S
  · exact s_lo_2 g S
  · exact s_lo_3 g S
  · exact s_lo_4 g S
  · exact s_lo_5 g S
  · exact s_lo_6 g S
  · exact s_lo_7 g S
  · exact s_lo_8 g S
  · exact s_lo_9 g S
  · exact s_lo_10 g S
  · exact s_lo_11 g S
  · exact s_lo_12 g S
  · exact s_lo_13 g S
set_option maxRecDepth 20000 in
set_option maxHeartbeats 1000000 in
theorem s_X8_passBlanks (g : pG) {M : Nat → Nat → Int32} {n : Nat} (hn : n ≤ 200) (en : M 29 1 = nI n) {a0 : Nat} (ha : a0 ≤ n) (f : Int32) : MS g mX8_passBlanks 1 0 0 [.ref 29] (Gs (tcS M (a0) (f))) (dV (Gs (tcS M (blC (M 30) n a0) (f)))) := by
  refine MS.of pn_X8 (Nat.le_of_ble_eq_true rfl) ?_
  have lp : ∀ (j_ : Nat) (a : Nat) (han : a ≤ n) (hr : runR isSp (M 30) n (201 - a) a = blC (M 30) n a0), 201 - a < j_ → PW g mX8_passBlanks (eN g (Gs (tcS M (a0) (f))).1 1 0 0 (dV (Gs (tcS M (blC (M 30) n a0) (f))))) 0 [some (.ref 29)] [] (Gs (tcS M (a) (f))) 0 0 := by
    intro j_
    induction j_ with
    | zero => intro a han hr hj; exact absurd hj (Nat.not_lt_zero _)
    | succ j_ ih =>
      intro a han hr hj
      refine r_aload_n dX8_passBlanks_0 rfl rfl ?_
      refine r_getI dX8_passBlanks_1 (ci := 8) (kf := 2) rfl (Nat.le_of_ble_eq_true rfl) (by decide) (by decide) rfl fl_X8_24 (Or.inl rfl) ?_
      rw [tc_a]
      refine r_aload_n dX8_passBlanks_4 rfl rfl ?_
      refine r_getI dX8_passBlanks_5 (ci := 8) (kf := 1) rfl (Nat.le_of_ble_eq_true rfl) (by decide) (by decide) rfl fl_X8_15 (Or.inl rfl) ?_
      rw [show ∀ a f, (Gs (tcS M a f)).2.2.2 29 1 = nI n from fun _ _ => en]
      refine r_icmp_geN (a) (n) (tgt := 38) dX8_passBlanks_8 (by decide) (by omega) (by omega) (fun c_8 => ?_) (fun c_8 => ?_)
      · (try dsimp only [Gs_M] at c_8)
        have ea : a = blC (M 30) n a0 := by rw [← hr, run_n (fun z => absurd (byR_lt isSp (by decide) z) (by omega))]
        refine r_vret dX8_passBlanks_38 rfl (Nat.le_refl _) ?_
        (try dsimp only [Gs_M])
        rw [← ea]
        exact ⟨rfl, rfl⟩
      · (try dsimp only [Gs_M] at c_8)
        refine r_aload_n dX8_passBlanks_11 rfl rfl ?_
        refine r_getR (q := 30) dX8_passBlanks_12 (ci := 8) (kf := 0) rfl (Nat.le_of_ble_eq_true rfl) (by decide) (by decide) rfl fl_X8_11 (Or.inl rfl) rfl ?_
        refine r_aload_n dX8_passBlanks_15 rfl rfl ?_
        refine r_getI dX8_passBlanks_16 (ci := 8) (kf := 2) rfl (Nat.le_of_ble_eq_true rfl) (by decide) (by decide) rfl fl_X8_24 (Or.inl rfl) ?_
        rw [tc_a]
        refine r_bald (j := a) dX8_passBlanks_19 rfl (Nat.le_of_ble_eq_true rfl) rfl (by omega) (by decide) ?_
        refine r_bipush (v := 32) dX8_passBlanks_20 (by decide) ?_
        refine r_icmp_ne (tgt := 38) dX8_passBlanks_22 (by decide) (fun c_22 => ?_) (fun c_22 => ?_)
        · (try dsimp only [Gs_M] at c_22)
          have ea : a = blC (M 30) n a0 := by rw [← hr, run_n (fun z => c_22 ((byR_i c_8).symm.trans (of_decide_eq_true z)))]
          refine r_vret dX8_passBlanks_38 rfl (Nat.le_refl _) ?_
          (try dsimp only [Gs_M])
          rw [← ea]
          exact ⟨rfl, rfl⟩
        · (try dsimp only [Gs_M] at c_22)
          refine r_aload_n dX8_passBlanks_25 rfl rfl ?_
          refine r_dup dX8_passBlanks_26 rfl ?_
          refine r_getI dX8_passBlanks_27 (ci := 8) (kf := 2) rfl (Nat.le_of_ble_eq_true rfl) (by decide) (by decide) rfl fl_X8_24 (Or.inl rfl) ?_
          rw [tc_a]
          refine r_iconst (v := 1) dX8_passBlanks_30 (by decide) ?_
          refine r_iaddN (a) (1) dX8_passBlanks_31 ?_
          refine r_putI dX8_passBlanks_32 (ci := 8) (kf := 2) rfl (Nat.le_of_ble_eq_true rfl) (by decide) (by decide) rfl fl_X8_24 (Or.inl rfl) rfl rfl rfl ?_
          rw [tc_sa]
          refine r_goto (tgt := 0) dX8_passBlanks_35 (by decide) ?_
          have hy : isSp (byR (M 30) n a) = true := by rw [byR_i c_8]; exact decide_eq_true c_22
          exact PW.subL (ih (a + 1) (by omega) ((run_y hn (by decide) hy).trans hr) (by omega)) (by repeat' first | exact True.intro | refine And.intro rfl ?_)
  exact PW.subL (lp 202 a0 ha rfl (by omega)) (by repeat' first | exact True.intro | refine And.intro rfl ?_)
set_option maxRecDepth 20000 in
set_option maxHeartbeats 1000000 in
theorem s_X8_fail (g : pG) {M : Nat → Nat → Int32} {a : Nat} (f x : Int32) : MS g mX8_fail 1 0 0 [.ref 29, .int x] (Gs (tcS M (a) (f))) (dV (Gs (tcS M (a) (flC f x)))) := by
  refine MS.of pn_X8 (Nat.le_of_ble_eq_true rfl) ?_
  refine r_aload_n dX8_fail_0 rfl rfl ?_
  refine r_getI dX8_fail_1 (ci := 8) (kf := 3) rfl (Nat.le_of_ble_eq_true rfl) (by decide) (by decide) rfl fl_X8_27 (Or.inl rfl) ?_
  rw [tc_f]
  refine r_iconst (v := (-1)) dX8_fail_4 (by decide) ?_
  refine r_icmp_ne (tgt := 13) dX8_fail_5 (by decide) (fun c_5 => ?_) (fun c_5 => ?_)
  · (try dsimp only [Gs_M] at c_5)
    rw [show flC f x = f from if_neg c_5]
    refine r_vret dX8_fail_13 rfl (Nat.le_refl _) ?_
    (try dsimp only [Gs_M])
    exact ⟨rfl, rfl⟩
  · (try dsimp only [Gs_M] at c_5)
    refine r_aload_n dX8_fail_8 rfl rfl ?_
    refine r_iload_n dX8_fail_9 rfl rfl ?_
    refine r_putI dX8_fail_10 (ci := 8) (kf := 3) rfl (Nat.le_of_ble_eq_true rfl) (by decide) (by decide) rfl fl_X8_27 (Or.inl rfl) rfl rfl rfl ?_
    rw [tc_sf, show flC f x = x from if_pos c_5]
    refine r_vret dX8_fail_13 rfl (Nat.le_refl _) ?_
    (try dsimp only [Gs_M])
    exact ⟨rfl, rfl⟩
def peA (b : Nat → Int32) (n a : Nat) : Nat := if byR b n a = 59 then blC b n (a + 1) else a
def peF (b : Nat → Int32) (n a : Nat) (f : Int32) : Int32 := if byR b n a = 59 then f else flC f (nI a)
set_option maxRecDepth 20000 in
set_option maxHeartbeats 1000000 in
theorem s_X8_passEnd (g : pG) {M : Nat → Nat → Int32} {n : Nat} (hn : n ≤ 200) (en : M 29 1 = nI n) {a : Nat} (ha : a ≤ n) (f : Int32) : MS g mX8_passEnd 2 0 0 [.ref 29] (Gs (tcS M (a) (f))) (dV (Gs (tcS M (peA (M 30) n a) (peF (M 30) n a f)))) := by
  refine MS.of pn_X8 (Nat.le_of_ble_eq_true rfl) ?_
  refine r_aload_n dX8_passEnd_0 rfl rfl ?_
  refine r_getI dX8_passEnd_1 (ci := 8) (kf := 2) rfl (Nat.le_of_ble_eq_true rfl) (by decide) (by decide) rfl fl_X8_24 (Or.inl rfl) ?_
  rw [tc_a]
  refine r_aload_n dX8_passEnd_4 rfl rfl ?_
  refine r_getI dX8_passEnd_5 (ci := 8) (kf := 1) rfl (Nat.le_of_ble_eq_true rfl) (by decide) (by decide) rfl fl_X8_15 (Or.inl rfl) ?_
  rw [show ∀ a f, (Gs (tcS M a f)).2.2.2 29 1 = nI n from fun _ _ => en]
  refine r_icmp_geN (a) (n) (tgt := 42) dX8_passEnd_8 (by decide) (by omega) (by omega) (fun c_8 => ?_) (fun c_8 => ?_)
  · (try dsimp only [Gs_M] at c_8)
    refine r_aload_n dX8_passEnd_42 rfl rfl ?_
    refine r_aload_n dX8_passEnd_43 rfl rfl ?_
    refine r_getI dX8_passEnd_44 (ci := 8) (kf := 2) rfl (Nat.le_of_ble_eq_true rfl) (by decide) (by decide) rfl fl_X8_24 (Or.inl rfl) ?_
    rw [tc_a]
    refine r_callV_dV (ci := 8) dX8_passEnd_47 (s_X8_fail g _ _) mf_X8_fail mi_X8_fail se_X8_X8_X8_fail ml_X8_47 rfl rfl (Nat.le_of_ble_eq_true rfl) rfl (by decide) rfl (Nat.le_of_ble_eq_true rfl) ⟨(Nat.le_of_ble_eq_true rfl), (Nat.le_of_ble_eq_true rfl)⟩ ⟨(Nat.le_of_ble_eq_true rfl), (Nat.le_of_ble_eq_true rfl)⟩ ?_
    refine r_vret dX8_passEnd_50 rfl (Nat.le_refl _) ?_
    (try dsimp only [Gs_M])
    have e : ¬ byR (M 30) n a = 59 := by
      unfold byR
      rw [if_neg (by omega)]
      decide
    rw [peA, peF, if_neg e, if_neg e]
    exact ⟨rfl, rfl⟩
  · (try dsimp only [Gs_M] at c_8)
    refine r_aload_n dX8_passEnd_11 rfl rfl ?_
    refine r_getR (q := 30) dX8_passEnd_12 (ci := 8) (kf := 0) rfl (Nat.le_of_ble_eq_true rfl) (by decide) (by decide) rfl fl_X8_11 (Or.inl rfl) rfl ?_
    refine r_aload_n dX8_passEnd_15 rfl rfl ?_
    refine r_getI dX8_passEnd_16 (ci := 8) (kf := 2) rfl (Nat.le_of_ble_eq_true rfl) (by decide) (by decide) rfl fl_X8_24 (Or.inl rfl) ?_
    rw [tc_a]
    refine r_bald (j := a) dX8_passEnd_19 rfl (Nat.le_of_ble_eq_true rfl) rfl (by omega) (by decide) ?_
    refine r_bipush (v := 59) dX8_passEnd_20 (by decide) ?_
    refine r_icmp_ne (tgt := 42) dX8_passEnd_22 (by decide) (fun c_22 => ?_) (fun c_22 => ?_)
    · (try dsimp only [Gs_M] at c_22)
      refine r_aload_n dX8_passEnd_42 rfl rfl ?_
      refine r_aload_n dX8_passEnd_43 rfl rfl ?_
      refine r_getI dX8_passEnd_44 (ci := 8) (kf := 2) rfl (Nat.le_of_ble_eq_true rfl) (by decide) (by decide) rfl fl_X8_24 (Or.inl rfl) ?_
      rw [tc_a]
      refine r_callV_dV (ci := 8) dX8_passEnd_47 (s_X8_fail g _ _) mf_X8_fail mi_X8_fail se_X8_X8_X8_fail ml_X8_47 rfl rfl (Nat.le_of_ble_eq_true rfl) rfl (by decide) rfl (Nat.le_of_ble_eq_true rfl) ⟨(Nat.le_of_ble_eq_true rfl), (Nat.le_of_ble_eq_true rfl)⟩ ⟨(Nat.le_of_ble_eq_true rfl), (Nat.le_of_ble_eq_true rfl)⟩ ?_
      refine r_vret dX8_passEnd_50 rfl (Nat.le_refl _) ?_
      (try dsimp only [Gs_M])
      have e : ¬ byR (M 30) n a = 59 := by rw [byR_i c_8]; exact c_22
      rw [peA, peF, if_neg e, if_neg e]
      exact ⟨rfl, rfl⟩
    · (try dsimp only [Gs_M] at c_22)
      refine r_aload_n dX8_passEnd_25 rfl rfl ?_
      refine r_dup dX8_passEnd_26 rfl ?_
      refine r_getI dX8_passEnd_27 (ci := 8) (kf := 2) rfl (Nat.le_of_ble_eq_true rfl) (by decide) (by decide) rfl fl_X8_24 (Or.inl rfl) ?_
      rw [tc_a]
      refine r_iconst (v := 1) dX8_passEnd_30 (by decide) ?_
      refine r_iaddN (a) (1) dX8_passEnd_31 ?_
      refine r_putI dX8_passEnd_32 (ci := 8) (kf := 2) rfl (Nat.le_of_ble_eq_true rfl) (by decide) (by decide) rfl fl_X8_24 (Or.inl rfl) rfl rfl rfl ?_
      rw [tc_sa]
      refine r_aload_n dX8_passEnd_35 rfl rfl ?_
      refine r_callV_dV (ci := 8) dX8_passEnd_36 (s_X8_passBlanks g hn en (show a + 1 ≤ n by omega) _) mf_X8_passBlanks mi_X8_passBlanks se_X8_X8_X8_passBlanks ml_X8_30 rfl rfl (Nat.le_of_ble_eq_true rfl) rfl (by decide) rfl (Nat.le_of_ble_eq_true rfl) ⟨(Nat.le_of_ble_eq_true rfl), (Nat.le_of_ble_eq_true rfl)⟩ ⟨(Nat.le_of_ble_eq_true rfl), (Nat.le_of_ble_eq_true rfl)⟩ ?_
      refine r_goto (tgt := 50) dX8_passEnd_39 (by decide) ?_
      refine r_vret dX8_passEnd_50 rfl (Nat.le_refl _) ?_
      (try dsimp only [Gs_M])
      have e : byR (M 30) n a = 59 := by rw [byR_i c_8]; exact c_22
      rw [peA, peF, if_pos e, if_pos e]
      exact ⟨rfl, rfl⟩
def nmC (b : Nat → Int32) (n a k : Nat) : Bool := decide (a + sLn.getD k 0 ≤ n) && !isLo (byR b n (a + sLn.getD k 0)) && (List.range (sLn.getD k 0)).all (fun i => b (a + i) == sChr k i)
def nmA (b : Nat → Int32) (n a k : Nat) : Nat := if nmC b n a k = true then blC b n (a + sLn.getD k 0) else a
theorem nmC_iff {b : Nat → Int32} {n a k : Nat} : nmC b n a k = true ↔ (a + sLn.getD k 0 ≤ n ∧ ¬ isLo (byR b n (a + sLn.getD k 0)) = true ∧ ∀ i, i < sLn.getD k 0 → b (a + i) = sChr k i) := by
  unfold nmC
  simp [and_assoc]
theorem nmA_y {b : Nat → Int32} {n a k : Nat} (h : nmC b n a k = true) : nmA b n a k = blC b n (a + sLn.getD k 0) := if_pos h
theorem nmA_n {b : Nat → Int32} {n a k : Nat} (h : ¬ nmC b n a k = true) : nmA b n a k = a := if_neg h
set_option maxRecDepth 20000 in
set_option maxHeartbeats 1000000 in
theorem s_X8_passName (g : pG) {M : Nat → Nat → Int32} {n : Nat} (hn : n ≤ 200) (en : M 29 1 = nI n) {a : Nat} (ha : a ≤ n) (f : Int32) (k : Nat) (hk : k < 14) : MS g mX8_passName 5 0 0 [.ref 29, .int (nI k)] (Gs (tcS M (a) (f))) (dI (bI (nmC (M 30) n a k = true)) (Gs (tcS M (nmA (M 30) n a k) (f)))) := by
  have h8 := sLn_le hk
  refine MS.of pn_X8 (Nat.le_of_ble_eq_true rfl) ?_
  refine r_iload_n dX8_passName_0 rfl rfl ?_
  refine r_callS_dR dX8_passName_1 (s_X8_lettersOf g (k) (by omega) _) mf_X8_lettersOf mt_X8_lettersOf ml_X8_84 rfl rfl (Nat.le_of_ble_eq_true rfl) ⟨(Nat.le_of_ble_eq_true rfl), (Nat.le_of_ble_eq_true rfl)⟩ ⟨(Nat.le_of_ble_eq_true rfl), (Nat.le_of_ble_eq_true rfl)⟩ ?_
  refine r_astore_n dX8_passName_4 rfl (by decide) ?_
  refine r_aload_n dX8_passName_5 rfl rfl ?_
  refine r_getI dX8_passName_6 (ci := 8) (kf := 2) rfl (Nat.le_of_ble_eq_true rfl) (by decide) (by decide) rfl fl_X8_24 (Or.inl rfl) ?_
  rw [tc_a]
  refine r_aload_n dX8_passName_9 rfl rfl ?_
  refine r_callStr dX8_passName_10 (s_J0_length g _ hk) mf_J0_length_8abf5 mi_J0_length_8abf5 se_J0_J0_J0_length_8abf5 ml_X8_88 rfl rfl hk rfl (Nat.le_of_ble_eq_true rfl) ⟨(Nat.le_of_ble_eq_true rfl), (Nat.le_of_ble_eq_true rfl)⟩ ⟨(Nat.le_of_ble_eq_true rfl), (Nat.le_of_ble_eq_true rfl)⟩ ?_
  refine r_iaddN (a) ((sLn.getD k 0)) dX8_passName_13 ?_
  refine r_istore_n dX8_passName_14 rfl (by decide) ?_
  refine r_iload_n dX8_passName_15 rfl rfl ?_
  refine r_aload_n dX8_passName_16 rfl rfl ?_
  refine r_getI dX8_passName_17 (ci := 8) (kf := 1) rfl (Nat.le_of_ble_eq_true rfl) (by decide) (by decide) rfl fl_X8_15 (Or.inl rfl) ?_
  rw [show ∀ a f, (Gs (tcS M a f)).2.2.2 29 1 = nI n from fun _ _ => en]
  refine r_icmp_gtN ((a + (sLn.getD k 0))) (n) (tgt := 43) dX8_passName_20 (by decide) (by omega) (by omega) (fun c_20 => ?_) (fun c_20 => ?_)
  · (try dsimp only [Gs_M] at c_20)
    refine r_iconst (v := 0) dX8_passName_43 (by decide) ?_
    refine r_zret dX8_passName_44 rfl rfl (Nat.le_refl _) ?_
    (try dsimp only [Gs_M])
    have nk : ¬ nmC (M 30) n a k = true := fun z => absurd (nmC_iff.mp z).1 (by omega)
    rw [nmA_n nk]
    exact ⟨congrArg (fun y => some (Value.int y)) (bI_f nk).symm, rfl⟩
  · (try dsimp only [Gs_M] at c_20)
    refine r_iload_n dX8_passName_23 rfl rfl ?_
    refine r_aload_n dX8_passName_24 rfl rfl ?_
    refine r_getI dX8_passName_25 (ci := 8) (kf := 1) rfl (Nat.le_of_ble_eq_true rfl) (by decide) (by decide) rfl fl_X8_15 (Or.inl rfl) ?_
    rw [show ∀ a f, (Gs (tcS M a f)).2.2.2 29 1 = nI n from fun _ _ => en]
    refine r_icmp_geN ((a + (sLn.getD k 0))) (n) (tgt := 45) dX8_passName_28 (by decide) (by omega) (by omega) (fun c_28 => ?_) (fun c_28 => ?_)
    · (try dsimp only [Gs_M] at c_28)
      refine r_aload_n dX8_passName_45 rfl rfl ?_
      refine r_getI dX8_passName_46 (ci := 8) (kf := 2) rfl (Nat.le_of_ble_eq_true rfl) (by decide) (by decide) rfl fl_X8_24 (Or.inl rfl) ?_
      rw [tc_a]
      refine r_istore dX8_passName_49 (by decide) ?_
      have hno : ¬ isLo (byR (M 30) n (a + sLn.getD k 0)) = true := by
        unfold byR
        rw [if_neg (by omega)]
        decide
      have lp : ∀ (j_ : Nat) (i : Nat) (hi : i ≤ sLn.getD k 0) (hm : ∀ j, j < i → M 30 (a + j) = sChr k j), sLn.getD k 0 - i < j_ → PW g mX8_passName (eN g (Gs (tcS M (a) (f))).1 5 0 0 (dI (bI (nmC (M 30) n a k = true)) (Gs (tcS M (nmA (M 30) n a k) (f))))) 51 [some (.ref 29), some (.int (nI k)), some (.ref (1000 + k)), some (.int (nI (a + sLn.getD k 0))), some (.int (nI (a + i)))] [] (Gs (tcS M (a) (f))) 0 0 := by
        intro j_
        induction j_ with
        | zero => intro i hi hm hj; exact absurd hj (Nat.not_lt_zero _)
        | succ j_ ih =>
          intro i hi hm hj
          refine r_iload dX8_passName_51 rfl ?_
          refine r_iload_n dX8_passName_53 rfl rfl ?_
          refine r_icmp_geN ((a + i)) ((a + sLn.getD k 0)) (tgt := 86) dX8_passName_54 (by decide) (by omega) (by omega) (fun c_54 => ?_) (fun c_54 => ?_)
          · (try dsimp only [Gs_M] at c_54)
            refine r_aload_n dX8_passName_86 rfl rfl ?_
            refine r_iload_n dX8_passName_87 rfl rfl ?_
            refine r_putI dX8_passName_88 (ci := 8) (kf := 2) rfl (Nat.le_of_ble_eq_true rfl) (by decide) (by decide) rfl fl_X8_24 (Or.inl rfl) rfl rfl rfl ?_
            refine r_aload_n dX8_passName_91 rfl rfl ?_
            refine r_callV_dV (ci := 8) dX8_passName_92 (s_X8_passBlanks g hn en (show a + sLn.getD k 0 ≤ n by omega) _) mf_X8_passBlanks mi_X8_passBlanks se_X8_X8_X8_passBlanks ml_X8_30 rfl rfl (Nat.le_of_ble_eq_true rfl) rfl (by decide) rfl (Nat.le_of_ble_eq_true rfl) ⟨(Nat.le_of_ble_eq_true rfl), (Nat.le_of_ble_eq_true rfl)⟩ ⟨(Nat.le_of_ble_eq_true rfl), (Nat.le_of_ble_eq_true rfl)⟩ ?_
            refine r_iconst (v := 1) dX8_passName_95 (by decide) ?_
            refine r_zret dX8_passName_96 rfl rfl (Nat.le_refl _) ?_
            (try dsimp only [Gs_M])
            have yk : nmC (M 30) n a k = true := nmC_iff.mpr ⟨by omega, hno, fun i hi => hm i (by omega)⟩
            rw [nmA_y yk]
            exact ⟨congrArg (fun y => some (Value.int y)) (bI_t yk).symm, rfl⟩
          · (try dsimp only [Gs_M] at c_54)
            refine r_aload_n dX8_passName_57 rfl rfl ?_
            refine r_getR (q := 30) dX8_passName_58 (ci := 8) (kf := 0) rfl (Nat.le_of_ble_eq_true rfl) (by decide) (by decide) rfl fl_X8_11 (Or.inl rfl) rfl ?_
            refine r_iload dX8_passName_61 rfl ?_
            refine r_bald (j := (a + i)) dX8_passName_63 rfl (Nat.le_of_ble_eq_true rfl) rfl (by omega) (by decide) ?_
            refine r_aload_n dX8_passName_64 rfl rfl ?_
            refine r_iload dX8_passName_65 rfl ?_
            refine r_aload_n dX8_passName_67 rfl rfl ?_
            refine r_getI dX8_passName_68 (ci := 8) (kf := 2) rfl (Nat.le_of_ble_eq_true rfl) (by decide) (by decide) rfl fl_X8_24 (Or.inl rfl) ?_
            rw [tc_a]
            refine r_isubN ((a + i)) (a) dX8_passName_71 (by omega) ?_
            rw [show a + i - a = i by omega]
            refine r_callStr dX8_passName_72 (s_J0_charAt g _ hk (show i < sLn.getD k 0 by omega)) mf_J0_charAt_5068e mi_J0_charAt_5068e se_J0_J0_J0_charAt_5068e ml_X8_96 rfl rfl hk rfl (Nat.le_of_ble_eq_true rfl) ⟨(Nat.le_of_ble_eq_true rfl), (Nat.le_of_ble_eq_true rfl)⟩ ⟨(Nat.le_of_ble_eq_true rfl), (Nat.le_of_ble_eq_true rfl)⟩ ?_
            refine r_icmp_eq (tgt := 80) dX8_passName_75 (by decide) (fun c_75 => ?_) (fun c_75 => ?_)
            · (try dsimp only [Gs_M] at c_75)
              skip
              refine r_iinc (v := nI ((a + i) + 1)) dX8_passName_80 rfl (nI_1 _) (by decide) ?_
              refine r_goto (tgt := 51) dX8_passName_83 (by decide) ?_
              exact PW.subL (ih (i + 1) (by omega) (fun j hj => by
                rcases Nat.lt_or_ge j i with h | h
                · exact hm j h
                · rw [show j = i by omega]; exact c_75) (by omega)) (by repeat' first | exact True.intro | refine And.intro rfl ?_)
            · (try dsimp only [Gs_M] at c_75)
              refine r_iconst (v := 0) dX8_passName_78 (by decide) ?_
              refine r_zret dX8_passName_79 rfl rfl (Nat.le_refl _) ?_
              (try dsimp only [Gs_M])
              have nk : ¬ nmC (M 30) n a k = true := fun z => c_75 ((nmC_iff.mp z).2.2 i (by omega))
              rw [nmA_n nk]
              exact ⟨congrArg (fun y => some (Value.int y)) (bI_f nk).symm, rfl⟩
      exact PW.subL (lp (sLn.getD k 0 + 1) 0 (by omega) (fun j hj => absurd hj (Nat.not_lt_zero j)) (by omega)) (by repeat' first | exact True.intro | refine And.intro rfl ?_)
    · (try dsimp only [Gs_M] at c_28)
      refine r_aload_n dX8_passName_31 rfl rfl ?_
      refine r_getR (q := 30) dX8_passName_32 (ci := 8) (kf := 0) rfl (Nat.le_of_ble_eq_true rfl) (by decide) (by decide) rfl fl_X8_11 (Or.inl rfl) rfl ?_
      refine r_iload_n dX8_passName_35 rfl rfl ?_
      refine r_bald (j := (a + (sLn.getD k 0))) dX8_passName_36 rfl (Nat.le_of_ble_eq_true rfl) rfl (by omega) (by decide) ?_
      refine r_callS_dI dX8_passName_37 (s_X8_isLetter g _ _) mf_X8_isLetter mt_X8_isLetter ml_X8_92 rfl rfl (Nat.le_of_ble_eq_true rfl) ⟨(Nat.le_of_ble_eq_true rfl), (Nat.le_of_ble_eq_true rfl)⟩ ⟨(Nat.le_of_ble_eq_true rfl), (Nat.le_of_ble_eq_true rfl)⟩ ?_
      refine r_if_eq (tgt := 45) dX8_passName_40 (by decide) (fun c_40 => ?_) (fun c_40 => ?_)
      · have c_40 := bI_0 c_40
        (try dsimp only [Gs_M] at c_40)
        refine r_aload_n dX8_passName_45 rfl rfl ?_
        refine r_getI dX8_passName_46 (ci := 8) (kf := 2) rfl (Nat.le_of_ble_eq_true rfl) (by decide) (by decide) rfl fl_X8_24 (Or.inl rfl) ?_
        rw [tc_a]
        refine r_istore dX8_passName_49 (by decide) ?_
        have hno : ¬ isLo (byR (M 30) n (a + sLn.getD k 0)) = true := by
          rw [byR_i (by omega)]
          exact c_40
        have lp : ∀ (j_ : Nat) (i : Nat) (hi : i ≤ sLn.getD k 0) (hm : ∀ j, j < i → M 30 (a + j) = sChr k j), sLn.getD k 0 - i < j_ → PW g mX8_passName (eN g (Gs (tcS M (a) (f))).1 5 0 0 (dI (bI (nmC (M 30) n a k = true)) (Gs (tcS M (nmA (M 30) n a k) (f))))) 51 [some (.ref 29), some (.int (nI k)), some (.ref (1000 + k)), some (.int (nI (a + sLn.getD k 0))), some (.int (nI (a + i)))] [] (Gs (tcS M (a) (f))) 0 0 := by
          intro j_
          induction j_ with
          | zero => intro i hi hm hj; exact absurd hj (Nat.not_lt_zero _)
          | succ j_ ih =>
            intro i hi hm hj
            refine r_iload dX8_passName_51 rfl ?_
            refine r_iload_n dX8_passName_53 rfl rfl ?_
            refine r_icmp_geN ((a + i)) ((a + sLn.getD k 0)) (tgt := 86) dX8_passName_54 (by decide) (by omega) (by omega) (fun c_54 => ?_) (fun c_54 => ?_)
            · (try dsimp only [Gs_M] at c_54)
              refine r_aload_n dX8_passName_86 rfl rfl ?_
              refine r_iload_n dX8_passName_87 rfl rfl ?_
              refine r_putI dX8_passName_88 (ci := 8) (kf := 2) rfl (Nat.le_of_ble_eq_true rfl) (by decide) (by decide) rfl fl_X8_24 (Or.inl rfl) rfl rfl rfl ?_
              refine r_aload_n dX8_passName_91 rfl rfl ?_
              refine r_callV_dV (ci := 8) dX8_passName_92 (s_X8_passBlanks g hn en (show a + sLn.getD k 0 ≤ n by omega) _) mf_X8_passBlanks mi_X8_passBlanks se_X8_X8_X8_passBlanks ml_X8_30 rfl rfl (Nat.le_of_ble_eq_true rfl) rfl (by decide) rfl (Nat.le_of_ble_eq_true rfl) ⟨(Nat.le_of_ble_eq_true rfl), (Nat.le_of_ble_eq_true rfl)⟩ ⟨(Nat.le_of_ble_eq_true rfl), (Nat.le_of_ble_eq_true rfl)⟩ ?_
              refine r_iconst (v := 1) dX8_passName_95 (by decide) ?_
              refine r_zret dX8_passName_96 rfl rfl (Nat.le_refl _) ?_
              (try dsimp only [Gs_M])
              have yk : nmC (M 30) n a k = true := nmC_iff.mpr ⟨by omega, hno, fun i hi => hm i (by omega)⟩
              rw [nmA_y yk]
              exact ⟨congrArg (fun y => some (Value.int y)) (bI_t yk).symm, rfl⟩
            · (try dsimp only [Gs_M] at c_54)
              refine r_aload_n dX8_passName_57 rfl rfl ?_
              refine r_getR (q := 30) dX8_passName_58 (ci := 8) (kf := 0) rfl (Nat.le_of_ble_eq_true rfl) (by decide) (by decide) rfl fl_X8_11 (Or.inl rfl) rfl ?_
              refine r_iload dX8_passName_61 rfl ?_
              refine r_bald (j := (a + i)) dX8_passName_63 rfl (Nat.le_of_ble_eq_true rfl) rfl (by omega) (by decide) ?_
              refine r_aload_n dX8_passName_64 rfl rfl ?_
              refine r_iload dX8_passName_65 rfl ?_
              refine r_aload_n dX8_passName_67 rfl rfl ?_
              refine r_getI dX8_passName_68 (ci := 8) (kf := 2) rfl (Nat.le_of_ble_eq_true rfl) (by decide) (by decide) rfl fl_X8_24 (Or.inl rfl) ?_
              rw [tc_a]
              refine r_isubN ((a + i)) (a) dX8_passName_71 (by omega) ?_
              rw [show a + i - a = i by omega]
              refine r_callStr dX8_passName_72 (s_J0_charAt g _ hk (show i < sLn.getD k 0 by omega)) mf_J0_charAt_5068e mi_J0_charAt_5068e se_J0_J0_J0_charAt_5068e ml_X8_96 rfl rfl hk rfl (Nat.le_of_ble_eq_true rfl) ⟨(Nat.le_of_ble_eq_true rfl), (Nat.le_of_ble_eq_true rfl)⟩ ⟨(Nat.le_of_ble_eq_true rfl), (Nat.le_of_ble_eq_true rfl)⟩ ?_
              refine r_icmp_eq (tgt := 80) dX8_passName_75 (by decide) (fun c_75 => ?_) (fun c_75 => ?_)
              · (try dsimp only [Gs_M] at c_75)
                skip
                refine r_iinc (v := nI ((a + i) + 1)) dX8_passName_80 rfl (nI_1 _) (by decide) ?_
                refine r_goto (tgt := 51) dX8_passName_83 (by decide) ?_
                exact PW.subL (ih (i + 1) (by omega) (fun j hj => by
                  rcases Nat.lt_or_ge j i with h | h
                  · exact hm j h
                  · rw [show j = i by omega]; exact c_75) (by omega)) (by repeat' first | exact True.intro | refine And.intro rfl ?_)
              · (try dsimp only [Gs_M] at c_75)
                refine r_iconst (v := 0) dX8_passName_78 (by decide) ?_
                refine r_zret dX8_passName_79 rfl rfl (Nat.le_refl _) ?_
                (try dsimp only [Gs_M])
                have nk : ¬ nmC (M 30) n a k = true := fun z => c_75 ((nmC_iff.mp z).2.2 i (by omega))
                rw [nmA_n nk]
                exact ⟨congrArg (fun y => some (Value.int y)) (bI_f nk).symm, rfl⟩
        exact PW.subL (lp (sLn.getD k 0 + 1) 0 (by omega) (fun j hj => absurd hj (Nat.not_lt_zero j)) (by omega)) (by repeat' first | exact True.intro | refine And.intro rfl ?_)
      · have c_40 := bI_n c_40
        (try dsimp only [Gs_M] at c_40)
        refine r_iconst (v := 0) dX8_passName_43 (by decide) ?_
        refine r_zret dX8_passName_44 rfl rfl (Nat.le_refl _) ?_
        (try dsimp only [Gs_M])
        have nk : ¬ nmC (M 30) n a k = true := fun z => (nmC_iff.mp z).2.1 (by rw [byR_i (by omega)]; exact c_40)
        rw [nmA_n nk]
        exact ⟨congrArg (fun y => some (Value.int y)) (bI_f nk).symm, rfl⟩
def opC (b : Nat → Int32) (n a : Nat) : Int32 := fwR (nmC b n a) 11
def opA (b : Nat → Int32) (n a : Nat) : Nat := if opC b n a = -3 then a else nmA b n a (cl (opC b n a))
set_option maxRecDepth 20000 in
set_option maxHeartbeats 1000000 in
theorem s_X8_passOpeningName (g : pG) {M : Nat → Nat → Int32} {n : Nat} (hn : n ≤ 200) (en : M 29 1 = nI n) {a : Nat} (ha : a ≤ n) (f : Int32) : MS g mX8_passOpeningName 6 0 0 [.ref 29] (Gs (tcS M (a) (f))) (dI (opC (M 30) n a) (Gs (tcS M (opA (M 30) n a) (f)))) := by
  refine MS.of pn_X8 (Nat.le_of_ble_eq_true rfl) ?_
  have lp : ∀ (j_ : Nat) (k : Nat) (hf : fwR (nmC (M 30) n a) k = -3) (hk : k ≤ 11), 11 - k < j_ → PW g mX8_passOpeningName (eN g (Gs (tcS M (a) (f))).1 6 0 0 (dI (opC (M 30) n a) (Gs (tcS M (opA (M 30) n a) (f))))) 2 [some (.ref 29), some (.int (nI k))] [] (Gs (tcS M (a) (f))) 0 0 := by
    intro j_
    induction j_ with
    | zero => intro k hf hk hj; exact absurd hj (Nat.not_lt_zero _)
    | succ j_ ih =>
      intro k hf hk hj
      refine r_iload_n dX8_passOpeningName_2 rfl rfl ?_
      refine r_bipush (v := 11) dX8_passOpeningName_3 (by decide) ?_
      refine r_icmp_geN (k) (11) (tgt := 24) dX8_passOpeningName_5 (by decide) (by omega) (by omega) (fun c_5 => ?_) (fun c_5 => ?_)
      · (try dsimp only [Gs_M] at c_5)
        refine r_bipush (v := (-3)) dX8_passOpeningName_24 (by decide) ?_
        refine r_iret dX8_passOpeningName_26 rfl (Nat.le_refl _) ?_
        (try dsimp only [Gs_M])
        have e1 : k = 11 := by omega
        subst e1
        have e : opC (M 30) n a = -3 := hf
        rw [opA, if_pos e, e]
        exact ⟨rfl, rfl⟩
      · (try dsimp only [Gs_M] at c_5)
        refine r_aload_n dX8_passOpeningName_8 rfl rfl ?_
        refine r_iload_n dX8_passOpeningName_9 rfl rfl ?_
        refine r_callV_dI (ci := 8) dX8_passOpeningName_10 (s_X8_passName g hn en ha _ (k) (by omega)) mf_X8_passName mi_X8_passName se_X8_X8_X8_passName ml_X8_69 rfl rfl (Nat.le_of_ble_eq_true rfl) rfl (by decide) rfl (Nat.le_of_ble_eq_true rfl) ⟨(Nat.le_of_ble_eq_true rfl), (Nat.le_of_ble_eq_true rfl)⟩ ⟨(Nat.le_of_ble_eq_true rfl), (Nat.le_of_ble_eq_true rfl)⟩ ?_
        refine r_if_eq (tgt := 18) dX8_passOpeningName_13 (by decide) (fun c_13 => ?_) (fun c_13 => ?_)
        · have c_13 := bI_0 c_13
          (try dsimp only [Gs_M] at c_13)
          refine r_iinc (v := nI (k + 1)) dX8_passOpeningName_18 rfl (nI_1 _) (by decide) ?_
          refine r_goto (tgt := 2) dX8_passOpeningName_21 (by decide) ?_
          rw [nmA_n c_13]
          exact PW.subL (ih (k + 1) (fwR_n hf c_13).symm (by omega) (by omega)) (by repeat' first | exact True.intro | refine And.intro rfl ?_)
        · have c_13 := bI_n c_13
          (try dsimp only [Gs_M] at c_13)
          refine r_iload_n dX8_passOpeningName_16 rfl rfl ?_
          refine r_iret dX8_passOpeningName_17 rfl (Nat.le_refl _) ?_
          (try dsimp only [Gs_M])
          have e : nI k = opC (M 30) n a := fwR_end (fwR_y hf c_13) (nI_ne3 (by omega)) (by omega)
          rw [opA, ← e, if_neg (nI_ne3 (by omega)), cl_nI (by omega)]
          exact ⟨rfl, rfl⟩
  refine r_iconst (v := 0) dX8_passOpeningName_0 (by decide) ?_
  refine r_istore_n dX8_passOpeningName_1 rfl (by decide) ?_
  exact PW.subL (lp 12 0 rfl (by omega) (by omega)) (by repeat' first | exact True.intro | refine And.intro rfl ?_)
