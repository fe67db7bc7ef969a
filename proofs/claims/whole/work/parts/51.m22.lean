/-! ===== the tape as the reference reads it ===== -/
def tpS (M : Nat → Nat → Int32) (R : Nat → Int32) (a g : Nat) (t v : Int32) : Nat → Nat → Int32 := fun q => if q = 58 then R else if q = 54 then (fun f => if f = 11 then nI a else if f = 12 then nI g else if f = 13 then t else if f = 14 then v else M 54 f) else M q
section
variable {M : Nat → Nat → Int32} {R : Nat → Int32} {a g : Nat} {t v : Int32}
theorem tp_a : (Gs (tpS M R a g t v)).2.2.2 54 11 = nI a := rfl
theorem tp_g : (Gs (tpS M R a g t v)).2.2.2 54 12 = nI g := rfl
theorem tp_t : (Gs (tpS M R a g t v)).2.2.2 54 13 = t := rfl
theorem tp_v : (Gs (tpS M R a g t v)).2.2.2 54 14 = v := rfl
theorem tp_sa {x : Nat} : mSet (Gs (tpS M R a g t v)) 54 11 (nI x) = Gs (tpS M R x g t v) := by
  refine congrArg (fun f => ((71, sh0, rf0, f) : pS)) ?_
  funext q f
  by_cases h : q = 54
  · subst h
    by_cases h3 : f = 11
    · subst h3; rfl
    · simp [upd, tpS, h3, Gs]
  · simp [h, tpS, Gs]
theorem tp_sg {x : Nat} : mSet (Gs (tpS M R a g t v)) 54 12 (nI x) = Gs (tpS M R a x t v) := by
  refine congrArg (fun f => ((71, sh0, rf0, f) : pS)) ?_
  funext q f
  by_cases h : q = 54
  · subst h
    by_cases h3 : f = 12
    · subst h3; rfl
    · simp [upd, tpS, h3, Gs]
  · simp [h, tpS, Gs]
theorem tp_st {x : Int32} : mSet (Gs (tpS M R a g t v)) 54 13 x = Gs (tpS M R a g x v) := by
  refine congrArg (fun f => ((71, sh0, rf0, f) : pS)) ?_
  funext q f
  by_cases h : q = 54
  · subst h
    by_cases h3 : f = 13
    · subst h3; rfl
    · simp [upd, tpS, h3, Gs]
  · simp [h, tpS, Gs]
theorem tp_sv {x : Int32} : mSet (Gs (tpS M R a g t v)) 54 14 x = Gs (tpS M R a g t x) := by
  refine congrArg (fun f => ((71, sh0, rf0, f) : pS)) ?_
  funext q f
  by_cases h : q = 54
  · subst h
    by_cases h3 : f = 14
    · subst h3; rfl
    · simp [upd, tpS, h3, Gs]
  · simp [h, tpS, Gs]
theorem tp_sr {k : Nat} {x : Int32} : mSet (Gs (tpS M R a g t v)) 58 k x = Gs (tpS M (upd R k x) a g t v) := by
  refine congrArg (fun f => ((71, sh0, rf0, f) : pS)) ?_
  funext q f
  by_cases h : q = 58
  · subst h; rfl
  · simp [h, tpS, Gs]
end
def byR (b : Nat → Int32) (n i : Nat) : Int32 := if i < n then b i else -1
def runR (p : Int32 → Bool) (b : Nat → Int32) (n : Nat) : Nat → Nat → Nat
  | 0, a => a
  | f + 1, a => if p (byR b n a) = true then runR p b n f (a + 1) else a
def isSp (x : Int32) : Bool := decide (x = 32)
def isLo (x : Int32) : Bool := decide (97 ≤ x ∧ x ≤ 122)
def isDg (x : Int32) : Bool := decide (48 ≤ x ∧ x ≤ 57)
theorem byR_lt {b : Nat → Int32} {n i : Nat} (p : Int32 → Bool) (hp : p (-1) = false) (h : p (byR b n i) = true) : i < n := by
  unfold byR at h
  by_cases c : i < n
  · exact c
  · rw [if_neg c, hp] at h
    exact absurd h (by decide)
theorem run_y {p : Int32 → Bool} {b : Nat → Int32} {n a : Nat} (hn : n ≤ 200) (hp : p (-1) = false) (h : p (byR b n a) = true) : runR p b n (201 - (a + 1)) (a + 1) = runR p b n (201 - a) a := by
  have h1 := byR_lt p hp h
  rw [show 201 - a = (201 - (a + 1)) + 1 by omega, runR, if_pos h]
theorem run_n {p : Int32 → Bool} {b : Nat → Int32} {n a : Nat} (h : ¬ p (byR b n a) = true) : runR p b n (201 - a) a = a := by
  rcases Nat.eq_zero_or_pos (201 - a) with e | e
  · rw [e, runR]
  · rw [show 201 - a = (201 - a - 1) + 1 by omega, runR, if_neg h]
theorem run_ge {p : Int32 → Bool} {b : Nat → Int32} {n : Nat} : ∀ f a, a ≤ runR p b n f a
  | 0, a => Nat.le_refl a
  | f + 1, a => by
    rw [runR]; split
    · exact Nat.le_trans (Nat.le_succ a) (run_ge f (a + 1))
    · exact Nat.le_refl a
theorem run_le {p : Int32 → Bool} {b : Nat → Int32} {n : Nat} (hp : p (-1) = false) : ∀ f a, a ≤ n → runR p b n f a ≤ n
  | 0, a, h => h
  | f + 1, a, h => by
    rw [runR]; split
    · rename_i c
      exact run_le hp f (a + 1) (byR_lt p hp c)
    · exact h
def nmB (L b : Nat → Int32) (n g e w : Nat) : Nat → Bool
  | 0 => decide (e - g ≤ 8)
  | j + 1 => if nmB L b n g e w j = true then decide (L (8 * w + j) = (if g + j < e then byR b n (g + j) else 32)) else false
theorem nmB_stop {L b : Nat → Int32} {n g e w j : Nat} (h : ¬ nmB L b n g e w j = true) : ∀ m, nmB L b n g e w (j + m) = false
  | 0 => by simpa using h
  | m + 1 => by rw [← Nat.add_assoc, nmB, nmB_stop h m, if_neg (by decide)]
theorem nmB_s {L b : Nat → Int32} {n g e w j : Nat} (h : nmB L b n g e w j = true) : nmB L b n g e w (j + 1) = decide (L (8 * w + j) = (if g + j < e then byR b n (g + j) else 32)) := by rw [nmB, if_pos h]
theorem nmB_end {L b : Nat → Int32} {n g e w j m : Nat} (h : ¬ nmB L b n g e w j = true) (hm : j ≤ m) : nmB L b n g e w m = false := by
  have e2 := nmB_stop h (m - j)
  rw [Nat.add_sub_cancel' hm] at e2
  exact e2
def nmT (L b : Nat → Int32) (n g e : Nat) : Nat → Int32
  | 0 => 101
  | i + 1 => if nmB L b n g e i 8 = true then nI i else nmT L b n g e i
theorem nmT_y {L b : Nat → Int32} {n g e i : Nat} (h : nmB L b n g e i 8 = true) : nI i = nmT L b n g e (i + 1) := by rw [nmT, if_pos h]
theorem nmT_n {L b : Nat → Int32} {n g e i : Nat} {t : Int32} (ht : t = nmT L b n g e i) (h : ¬ nmB L b n g e i 8 = true) : t = nmT L b n g e (i + 1) := by rw [nmT, if_neg h]; exact ht
def valR (b : Nat → Int32) (n g : Nat) : Nat → Int32
  | 0 => 0
  | k + 1 => if k < 3 then 10 * valR b n g k + byR b n (g + k) - 48 else valR b n g k
abbrev pT := Nat × Nat × Int32 × Int32
def nextR (L b : Nat → Int32) (n : Nat) (P : pT) : pT :=
  if byR b n (runR isSp b n (201 - P.1) P.1) < 0 then (runR isSp b n (201 - P.1) P.1, runR isSp b n (201 - P.1) P.1, -1, P.2.2.2)
  else if isLo (byR b n (runR isSp b n (201 - P.1) P.1)) = true then (runR isLo b n (201 - runR isSp b n (201 - P.1) P.1) (runR isSp b n (201 - P.1) P.1), runR isSp b n (201 - P.1) P.1, nmT L b n (runR isSp b n (201 - P.1) P.1) (runR isLo b n (201 - runR isSp b n (201 - P.1) P.1) (runR isSp b n (201 - P.1) P.1)) 14, P.2.2.2)
  else if isDg (byR b n (runR isSp b n (201 - P.1) P.1)) = true then (runR isDg b n (201 - runR isSp b n (201 - P.1) P.1) (runR isSp b n (201 - P.1) P.1), runR isSp b n (201 - P.1) P.1, if 3 < runR isDg b n (201 - runR isSp b n (201 - P.1) P.1) (runR isSp b n (201 - P.1) P.1) - runR isSp b n (201 - P.1) P.1 then 101 else 100, valR b n (runR isSp b n (201 - P.1) P.1) (runR isDg b n (201 - runR isSp b n (201 - P.1) P.1) (runR isSp b n (201 - P.1) P.1) - runR isSp b n (201 - P.1) P.1))
  else (runR isSp b n (201 - P.1) P.1 + 1, runR isSp b n (201 - P.1) P.1, 200 + byR b n (runR isSp b n (201 - P.1) P.1), P.2.2.2)
set_option maxRecDepth 20000 in
set_option maxHeartbeats 1000000 in
theorem s_X12_byteAt (g : pG) {S : pS} (hS : sOk S) {n : Nat} (hn : n ≤ 200) (en : S.2.2.2 54 9 = nI n) (i : Nat) (hi : i < 1000) : MS g mX12_byteAt 1 0 0 [.ref 54, .int (nI i)] (S) (dI (byR (S.2.2.2 61) n i) S) := by
  obtain ⟨M0, rfl⟩ := sOk_gs hS
  refine MS.of pn_X12 (Nat.le_of_ble_eq_true rfl) ?_
  refine r_iload_n dX12_byteAt_0 rfl rfl ?_
  refine r_aload_n dX12_byteAt_1 rfl rfl ?_
  refine r_getI dX12_byteAt_2 (ci := 12) (kf := 9) rfl (Nat.le_of_ble_eq_true rfl) (by decide) (by decide) rfl fl_X12_117 (Or.inl rfl) ?_
  rw [en]
  refine r_icmp_geN (i) (n) (tgt := 17) dX12_byteAt_5 (by decide) (by omega) (by omega) (fun c_5 => ?_) (fun c_5 => ?_)
  · (try dsimp only [Gs_M] at c_5)
    refine r_iconst (v := (-1)) dX12_byteAt_17 (by decide) ?_
    refine r_iret dX12_byteAt_18 rfl (Nat.le_refl _) ?_
    (try dsimp only [Gs_M])
    refine ⟨congrArg (fun y => some (Value.int y)) (Eq.symm ?_), rfl⟩
    exact if_neg (by omega)
  · (try dsimp only [Gs_M] at c_5)
    refine r_aload_n dX12_byteAt_8 rfl rfl ?_
    refine r_getR (q := 61) dX12_byteAt_9 (ci := 12) (kf := 8) rfl (Nat.le_of_ble_eq_true rfl) (by decide) (by decide) rfl fl_X12_28 (Or.inl rfl) rfl ?_
    refine r_iload_n dX12_byteAt_12 rfl rfl ?_
    refine r_iald (j := i) dX12_byteAt_13 rfl (Nat.le_of_ble_eq_true rfl) rfl (by omega) (by decide) ?_
    refine r_goto (tgt := 18) dX12_byteAt_14 (by decide) ?_
    refine r_iret dX12_byteAt_18 rfl (Nat.le_refl _) ?_
    (try dsimp only [Gs_M])
    refine ⟨congrArg (fun y => some (Value.int y)) (Eq.symm ?_), rfl⟩
    exact if_pos c_5
set_option maxRecDepth 20000 in
set_option maxHeartbeats 1000000 in
theorem s_X12_isNameOf (g : pG) {M : Nat → Nat → Int32} {R : Nat → Int32} {n : Nat} (hn : n ≤ 200) (en : M 54 9 = nI n) (e g2 w : Nat) (t v : Int32) (hge : g2 ≤ e) (he : e ≤ 200) (hw : w < 14) : MS g mX12_isNameOf 2 0 0 [.ref 54, .int (nI w)] (Gs (tpS M R e g2 t v)) (dI (bI (nmB (M 62) (M 61) n g2 e w 8 = true)) (Gs (tpS M R e g2 t v))) := by
  refine MS.of pn_X12 (Nat.le_of_ble_eq_true rfl) ?_
  refine r_aload_n dX12_isNameOf_0 rfl rfl ?_
  refine r_getI dX12_isNameOf_1 (ci := 12) (kf := 11) rfl (Nat.le_of_ble_eq_true rfl) (by decide) (by decide) rfl fl_X12_120 (Or.inl rfl) ?_
  rw [tp_a]
  refine r_aload_n dX12_isNameOf_4 rfl rfl ?_
  refine r_getI dX12_isNameOf_5 (ci := 12) (kf := 12) rfl (Nat.le_of_ble_eq_true rfl) (by decide) (by decide) rfl fl_X12_123 (Or.inl rfl) ?_
  rw [tp_g]
  refine r_isubN (e) (g2) dX12_isNameOf_8 (by omega) ?_
  refine r_bipush (v := 8) dX12_isNameOf_9 (by decide) ?_
  refine r_icmp_gtN ((e - g2)) (8) (tgt := 18) dX12_isNameOf_11 (by decide) (by omega) (by omega) (fun c_11 => ?_) (fun c_11 => ?_)
  · (try dsimp only [Gs_M] at c_11)
    refine r_iconst (v := 0) dX12_isNameOf_18 (by decide) ?_
    refine r_istore_n dX12_isNameOf_19 rfl (by decide) ?_
    refine r_iconst (v := 0) dX12_isNameOf_20 (by decide) ?_
    refine r_istore_n dX12_isNameOf_21 rfl (by decide) ?_
    have lp : ∀ (j_ : Nat) (j : Nat) (s : Int32) (hs : s = bI (nmB (M 62) (M 61) n g2 e w j = true)) (hj8 : j ≤ 8), 8 - j < j_ → PW g mX12_isNameOf (eN g (Gs (tpS M R e g2 t v)).1 2 0 0 (dI (bI (nmB (M 62) (M 61) n g2 e w 8 = true)) (Gs (tpS M R e g2 t v)))) 22 [some (.ref 54), some (.int (nI w)), some (.int s), some (.int (nI j))] [] (Gs (tpS M R e g2 t v)) 0 0 := by
      intro j_
      induction j_ with
      | zero => intro j s hs hj8 hj; exact absurd hj (Nat.not_lt_zero _)
      | succ j_ ih =>
        intro j s hs hj8 hj
        subst hs
        refine r_iload_n dX12_isNameOf_22 rfl rfl ?_
        refine r_bipush (v := 8) dX12_isNameOf_23 (by decide) ?_
        refine r_icmp_geN (j) (8) (tgt := 86) dX12_isNameOf_25 (by decide) (by omega) (by omega) (fun c_25 => ?_) (fun c_25 => ?_)
        · (try dsimp only [Gs_M] at c_25)
          refine r_iload_n dX12_isNameOf_86 rfl rfl ?_
          refine r_zret dX12_isNameOf_87 rfl bI_z (Nat.le_refl _) ?_
          (try dsimp only [Gs_M])
          refine ⟨?_, rfl⟩
          have ej : j = 8 := by omega
          subst ej
          rfl
        · (try dsimp only [Gs_M] at c_25)
          refine r_iload_n dX12_isNameOf_28 rfl rfl ?_
          refine r_if_eq (tgt := 86) dX12_isNameOf_29 (by decide) (fun c_29 => ?_) (fun c_29 => ?_)
          · have c_29 := bI_0 c_29
            (try dsimp only [Gs_M] at c_29)
            refine r_iload_n dX12_isNameOf_86 rfl rfl ?_
            refine r_zret dX12_isNameOf_87 rfl bI_z (Nat.le_refl _) ?_
            (try dsimp only [Gs_M])
            refine ⟨?_, rfl⟩
            exact congrArg (fun y => some (Value.int y)) ((bI_f c_29).trans (bI_f (fun z => by rw [nmB_end c_29 hj8] at z; exact absurd z (by decide))).symm)
          · have c_29 := bI_n c_29
            (try dsimp only [Gs_M] at c_29)
            refine r_aload_n dX12_isNameOf_32 rfl rfl ?_
            refine r_getR (q := 62) dX12_isNameOf_33 (ci := 12) (kf := 10) rfl (Nat.le_of_ble_eq_true rfl) (by decide) (by decide) rfl fl_X12_31 (Or.inl rfl) rfl ?_
            refine r_bipush (v := 8) dX12_isNameOf_36 (by decide) ?_
            refine r_iload_n dX12_isNameOf_38 rfl rfl ?_
            refine r_imulN (8) (w) dX12_isNameOf_39 ?_
            refine r_iload_n dX12_isNameOf_40 rfl rfl ?_
            refine r_iaddN ((8 * w)) (j) dX12_isNameOf_41 ?_
            refine r_cald (j := ((8 * w) + j)) dX12_isNameOf_42 rfl (Nat.le_of_ble_eq_true rfl) rfl (by omega) (by decide) ?_
            refine r_aload_n dX12_isNameOf_43 rfl rfl ?_
            refine r_getI dX12_isNameOf_44 (ci := 12) (kf := 12) rfl (Nat.le_of_ble_eq_true rfl) (by decide) (by decide) rfl fl_X12_123 (Or.inl rfl) ?_
            rw [tp_g]
            refine r_iload_n dX12_isNameOf_47 rfl rfl ?_
            refine r_iaddN (g2) (j) dX12_isNameOf_48 ?_
            refine r_aload_n dX12_isNameOf_49 rfl rfl ?_
            refine r_getI dX12_isNameOf_50 (ci := 12) (kf := 11) rfl (Nat.le_of_ble_eq_true rfl) (by decide) (by decide) rfl fl_X12_120 (Or.inl rfl) ?_
            rw [tp_a]
            refine r_icmp_geN ((g2 + j)) (e) (tgt := 69) dX12_isNameOf_53 (by decide) (by omega) (by omega) (fun c_53 => ?_) (fun c_53 => ?_)
            · (try dsimp only [Gs_M] at c_53)
              refine r_bipush (v := 32) dX12_isNameOf_69 (by decide) ?_
              refine r_icmp_ne (tgt := 78) dX12_isNameOf_71 (by decide) (fun c_71 => ?_) (fun c_71 => ?_)
              · (try dsimp only [Gs_M] at c_71)
                refine r_iconst (v := 0) dX12_isNameOf_78 (by decide) ?_
                refine r_istore_n dX12_isNameOf_79 rfl (by decide) ?_
                refine r_iinc (v := nI (j + 1)) dX12_isNameOf_80 rfl (nI_1 _) (by decide) ?_
                refine r_goto (tgt := 22) dX12_isNameOf_83 (by decide) ?_
                refine PW.subL (ih (j + 1) _ ?_ (by omega) (by omega)) (by repeat' first | exact True.intro | refine And.intro rfl ?_)
                rw [nmB_s c_29, if_neg (by omega)]
                exact (bI_f (fun z => c_71 (of_decide_eq_true z))).symm
              · (try dsimp only [Gs_M] at c_71)
                refine r_iconst (v := 1) dX12_isNameOf_74 (by decide) ?_
                refine r_goto (tgt := 79) dX12_isNameOf_75 (by decide) ?_
                refine r_istore_n dX12_isNameOf_79 rfl (by decide) ?_
                refine r_iinc (v := nI (j + 1)) dX12_isNameOf_80 rfl (nI_1 _) (by decide) ?_
                refine r_goto (tgt := 22) dX12_isNameOf_83 (by decide) ?_
                refine PW.subL (ih (j + 1) _ ?_ (by omega) (by omega)) (by repeat' first | exact True.intro | refine And.intro rfl ?_)
                rw [nmB_s c_29, if_neg (by omega)]
                exact (bI_t (decide_eq_true c_71)).symm
            · (try dsimp only [Gs_M] at c_53)
              refine r_aload_n dX12_isNameOf_56 rfl rfl ?_
              refine r_aload_n dX12_isNameOf_57 rfl rfl ?_
              refine r_getI dX12_isNameOf_58 (ci := 12) (kf := 12) rfl (Nat.le_of_ble_eq_true rfl) (by decide) (by decide) rfl fl_X12_123 (Or.inl rfl) ?_
              rw [tp_g]
              refine r_iload_n dX12_isNameOf_61 rfl rfl ?_
              refine r_iaddN (g2) (j) dX12_isNameOf_62 ?_
              refine r_callV_dI (ci := 12) dX12_isNameOf_63 (s_X12_byteAt g (S := Gs (tpS M R e g2 t v)) (by exact ⟨rfl, rfl, rfl⟩) hn en ((g2 + j)) (by omega)) mf_X12_byteAt mi_X12_byteAt se_X12_X12_X12_byteAt ml_X12_126 rfl rfl (Nat.le_of_ble_eq_true rfl) rfl (by decide) rfl (Nat.le_of_ble_eq_true rfl) ⟨(Nat.le_of_ble_eq_true rfl), (Nat.le_of_ble_eq_true rfl)⟩ ⟨(Nat.le_of_ble_eq_true rfl), (Nat.le_of_ble_eq_true rfl)⟩ ?_
              refine r_goto (tgt := 71) dX12_isNameOf_66 (by decide) ?_
              refine r_icmp_ne (tgt := 78) dX12_isNameOf_71 (by decide) (fun c_71 => ?_) (fun c_71 => ?_)
              · (try dsimp only [Gs_M] at c_71)
                refine r_iconst (v := 0) dX12_isNameOf_78 (by decide) ?_
                refine r_istore_n dX12_isNameOf_79 rfl (by decide) ?_
                refine r_iinc (v := nI (j + 1)) dX12_isNameOf_80 rfl (nI_1 _) (by decide) ?_
                refine r_goto (tgt := 22) dX12_isNameOf_83 (by decide) ?_
                refine PW.subL (ih (j + 1) _ ?_ (by omega) (by omega)) (by repeat' first | exact True.intro | refine And.intro rfl ?_)
                rw [nmB_s c_29, if_pos (by omega)]
                exact (bI_f (fun z => c_71 (of_decide_eq_true z))).symm
              · (try dsimp only [Gs_M] at c_71)
                refine r_iconst (v := 1) dX12_isNameOf_74 (by decide) ?_
                refine r_goto (tgt := 79) dX12_isNameOf_75 (by decide) ?_
                refine r_istore_n dX12_isNameOf_79 rfl (by decide) ?_
                refine r_iinc (v := nI (j + 1)) dX12_isNameOf_80 rfl (nI_1 _) (by decide) ?_
                refine r_goto (tgt := 22) dX12_isNameOf_83 (by decide) ?_
                refine PW.subL (ih (j + 1) _ ?_ (by omega) (by omega)) (by repeat' first | exact True.intro | refine And.intro rfl ?_)
                rw [nmB_s c_29, if_pos (by omega)]
                exact (bI_t (decide_eq_true c_71)).symm
    exact PW.subL (lp 9 0 _ (bI_f (fun z => absurd (of_decide_eq_true z) (by omega))).symm (by omega) (by omega)) (by repeat' first | exact True.intro | refine And.intro rfl ?_)
  · (try dsimp only [Gs_M] at c_11)
    refine r_iconst (v := 1) dX12_isNameOf_14 (by decide) ?_
    refine r_goto (tgt := 19) dX12_isNameOf_15 (by decide) ?_
    refine r_istore_n dX12_isNameOf_19 rfl (by decide) ?_
    refine r_iconst (v := 0) dX12_isNameOf_20 (by decide) ?_
    refine r_istore_n dX12_isNameOf_21 rfl (by decide) ?_
    have lp : ∀ (j_ : Nat) (j : Nat) (s : Int32) (hs : s = bI (nmB (M 62) (M 61) n g2 e w j = true)) (hj8 : j ≤ 8), 8 - j < j_ → PW g mX12_isNameOf (eN g (Gs (tpS M R e g2 t v)).1 2 0 0 (dI (bI (nmB (M 62) (M 61) n g2 e w 8 = true)) (Gs (tpS M R e g2 t v)))) 22 [some (.ref 54), some (.int (nI w)), some (.int s), some (.int (nI j))] [] (Gs (tpS M R e g2 t v)) 0 0 := by
      intro j_
      induction j_ with
      | zero => intro j s hs hj8 hj; exact absurd hj (Nat.not_lt_zero _)
      | succ j_ ih =>
        intro j s hs hj8 hj
        subst hs
        refine r_iload_n dX12_isNameOf_22 rfl rfl ?_
        refine r_bipush (v := 8) dX12_isNameOf_23 (by decide) ?_
        refine r_icmp_geN (j) (8) (tgt := 86) dX12_isNameOf_25 (by decide) (by omega) (by omega) (fun c_25 => ?_) (fun c_25 => ?_)
        · (try dsimp only [Gs_M] at c_25)
          refine r_iload_n dX12_isNameOf_86 rfl rfl ?_
          refine r_zret dX12_isNameOf_87 rfl bI_z (Nat.le_refl _) ?_
          (try dsimp only [Gs_M])
          refine ⟨?_, rfl⟩
          have ej : j = 8 := by omega
          subst ej
          rfl
        · (try dsimp only [Gs_M] at c_25)
          refine r_iload_n dX12_isNameOf_28 rfl rfl ?_
          refine r_if_eq (tgt := 86) dX12_isNameOf_29 (by decide) (fun c_29 => ?_) (fun c_29 => ?_)
          · have c_29 := bI_0 c_29
            (try dsimp only [Gs_M] at c_29)
            refine r_iload_n dX12_isNameOf_86 rfl rfl ?_
            refine r_zret dX12_isNameOf_87 rfl bI_z (Nat.le_refl _) ?_
            (try dsimp only [Gs_M])
            refine ⟨?_, rfl⟩
            exact congrArg (fun y => some (Value.int y)) ((bI_f c_29).trans (bI_f (fun z => by rw [nmB_end c_29 hj8] at z; exact absurd z (by decide))).symm)
          · have c_29 := bI_n c_29
            (try dsimp only [Gs_M] at c_29)
            refine r_aload_n dX12_isNameOf_32 rfl rfl ?_
            refine r_getR (q := 62) dX12_isNameOf_33 (ci := 12) (kf := 10) rfl (Nat.le_of_ble_eq_true rfl) (by decide) (by decide) rfl fl_X12_31 (Or.inl rfl) rfl ?_
            refine r_bipush (v := 8) dX12_isNameOf_36 (by decide) ?_
            refine r_iload_n dX12_isNameOf_38 rfl rfl ?_
            refine r_imulN (8) (w) dX12_isNameOf_39 ?_
            refine r_iload_n dX12_isNameOf_40 rfl rfl ?_
            refine r_iaddN ((8 * w)) (j) dX12_isNameOf_41 ?_
            refine r_cald (j := ((8 * w) + j)) dX12_isNameOf_42 rfl (Nat.le_of_ble_eq_true rfl) rfl (by omega) (by decide) ?_
            refine r_aload_n dX12_isNameOf_43 rfl rfl ?_
            refine r_getI dX12_isNameOf_44 (ci := 12) (kf := 12) rfl (Nat.le_of_ble_eq_true rfl) (by decide) (by decide) rfl fl_X12_123 (Or.inl rfl) ?_
            rw [tp_g]
            refine r_iload_n dX12_isNameOf_47 rfl rfl ?_
            refine r_iaddN (g2) (j) dX12_isNameOf_48 ?_
            refine r_aload_n dX12_isNameOf_49 rfl rfl ?_
            refine r_getI dX12_isNameOf_50 (ci := 12) (kf := 11) rfl (Nat.le_of_ble_eq_true rfl) (by decide) (by decide) rfl fl_X12_120 (Or.inl rfl) ?_
            rw [tp_a]
            refine r_icmp_geN ((g2 + j)) (e) (tgt := 69) dX12_isNameOf_53 (by decide) (by omega) (by omega) (fun c_53 => ?_) (fun c_53 => ?_)
            · (try dsimp only [Gs_M] at c_53)
              refine r_bipush (v := 32) dX12_isNameOf_69 (by decide) ?_
              refine r_icmp_ne (tgt := 78) dX12_isNameOf_71 (by decide) (fun c_71 => ?_) (fun c_71 => ?_)
              · (try dsimp only [Gs_M] at c_71)
                refine r_iconst (v := 0) dX12_isNameOf_78 (by decide) ?_
                refine r_istore_n dX12_isNameOf_79 rfl (by decide) ?_
                refine r_iinc (v := nI (j + 1)) dX12_isNameOf_80 rfl (nI_1 _) (by decide) ?_
                refine r_goto (tgt := 22) dX12_isNameOf_83 (by decide) ?_
                refine PW.subL (ih (j + 1) _ ?_ (by omega) (by omega)) (by repeat' first | exact True.intro | refine And.intro rfl ?_)
                rw [nmB_s c_29, if_neg (by omega)]
                exact (bI_f (fun z => c_71 (of_decide_eq_true z))).symm
              · (try dsimp only [Gs_M] at c_71)
                refine r_iconst (v := 1) dX12_isNameOf_74 (by decide) ?_
                refine r_goto (tgt := 79) dX12_isNameOf_75 (by decide) ?_
                refine r_istore_n dX12_isNameOf_79 rfl (by decide) ?_
                refine r_iinc (v := nI (j + 1)) dX12_isNameOf_80 rfl (nI_1 _) (by decide) ?_
                refine r_goto (tgt := 22) dX12_isNameOf_83 (by decide) ?_
                refine PW.subL (ih (j + 1) _ ?_ (by omega) (by omega)) (by repeat' first | exact True.intro | refine And.intro rfl ?_)
                rw [nmB_s c_29, if_neg (by omega)]
                exact (bI_t (decide_eq_true c_71)).symm
            · (try dsimp only [Gs_M] at c_53)
              refine r_aload_n dX12_isNameOf_56 rfl rfl ?_
              refine r_aload_n dX12_isNameOf_57 rfl rfl ?_
              refine r_getI dX12_isNameOf_58 (ci := 12) (kf := 12) rfl (Nat.le_of_ble_eq_true rfl) (by decide) (by decide) rfl fl_X12_123 (Or.inl rfl) ?_
              rw [tp_g]
              refine r_iload_n dX12_isNameOf_61 rfl rfl ?_
              refine r_iaddN (g2) (j) dX12_isNameOf_62 ?_
              refine r_callV_dI (ci := 12) dX12_isNameOf_63 (s_X12_byteAt g (S := Gs (tpS M R e g2 t v)) (by exact ⟨rfl, rfl, rfl⟩) hn en ((g2 + j)) (by omega)) mf_X12_byteAt mi_X12_byteAt se_X12_X12_X12_byteAt ml_X12_126 rfl rfl (Nat.le_of_ble_eq_true rfl) rfl (by decide) rfl (Nat.le_of_ble_eq_true rfl) ⟨(Nat.le_of_ble_eq_true rfl), (Nat.le_of_ble_eq_true rfl)⟩ ⟨(Nat.le_of_ble_eq_true rfl), (Nat.le_of_ble_eq_true rfl)⟩ ?_
              refine r_goto (tgt := 71) dX12_isNameOf_66 (by decide) ?_
              refine r_icmp_ne (tgt := 78) dX12_isNameOf_71 (by decide) (fun c_71 => ?_) (fun c_71 => ?_)
              · (try dsimp only [Gs_M] at c_71)
                refine r_iconst (v := 0) dX12_isNameOf_78 (by decide) ?_
                refine r_istore_n dX12_isNameOf_79 rfl (by decide) ?_
                refine r_iinc (v := nI (j + 1)) dX12_isNameOf_80 rfl (nI_1 _) (by decide) ?_
                refine r_goto (tgt := 22) dX12_isNameOf_83 (by decide) ?_
                refine PW.subL (ih (j + 1) _ ?_ (by omega) (by omega)) (by repeat' first | exact True.intro | refine And.intro rfl ?_)
                rw [nmB_s c_29, if_pos (by omega)]
                exact (bI_f (fun z => c_71 (of_decide_eq_true z))).symm
              · (try dsimp only [Gs_M] at c_71)
                refine r_iconst (v := 1) dX12_isNameOf_74 (by decide) ?_
                refine r_goto (tgt := 79) dX12_isNameOf_75 (by decide) ?_
                refine r_istore_n dX12_isNameOf_79 rfl (by decide) ?_
                refine r_iinc (v := nI (j + 1)) dX12_isNameOf_80 rfl (nI_1 _) (by decide) ?_
                refine r_goto (tgt := 22) dX12_isNameOf_83 (by decide) ?_
                refine PW.subL (ih (j + 1) _ ?_ (by omega) (by omega)) (by repeat' first | exact True.intro | refine And.intro rfl ?_)
                rw [nmB_s c_29, if_pos (by omega)]
                exact (bI_t (decide_eq_true c_71)).symm
    exact PW.subL (lp 9 0 _ (bI_t (decide_eq_true c_11)).symm (by omega) (by omega)) (by repeat' first | exact True.intro | refine And.intro rfl ?_)
