theorem in_sys : Cond.initialized "java/lang/System" ∈ gT := gT_1 3 rfl rfl
/-! ===== a night of the class ===== -/
def chC (W r : Nat → Int32) (k p : Nat) : Int32 := if nI p = r k then learnsR W k else -forgetsR W k
def lafC (W r : Nat → Int32) (k : Nat) : Nat → Nat → Int32
  | 0 => W
  | p + 1 => upd (lafC W r k p) (16 + 11 * k + (3 + p)) (heldR (W (16 + 11 * k + (3 + p)) + chC W r k p) 99)
theorem lafC_0 {W r : Nat → Int32} {k : Nat} : lafC W r k 0 = W := rfl
theorem lafC_ne {W r : Nat → Int32} {k x : Nat} : ∀ n, (∀ j, j < n → x ≠ 16 + 11 * k + (3 + j)) → lafC W r k n x = W x
  | 0, _ => rfl
  | n + 1, h => by rw [lafC, pk_un (h n (by omega)), lafC_ne n (fun j hj => h j (by omega))]
theorem laf_s {W r V : Nat → Int32} {k p : Nat} {x c : Int32} (hv : V = lafC W r k p) (hx : x = V (16 + 11 * k + (3 + p))) (hc : c = chC W r k p) : upd V (16 + 11 * k + (3 + p)) (heldR (x + c) 99) = lafC W r k (p + 1) := by
  rw [lafC, hx, hc, hv, lafC_ne p (fun j hj => by omega)]
def nitC (W r : Nat → Int32) : Nat → Nat → Int32
  | 0 => W
  | k + 1 => if W (16 + 11 * k + 2) = 0 then lafC (nitC W r k) r k 8 else upd (nitC W r k) (16 + 11 * k + 2) (W (16 + 11 * k + 2) - 1)
theorem nitC_0 {W r : Nat → Int32} : nitC W r 0 = W := rfl
theorem nitC_ne {W r : Nat → Int32} {x : Nat} : ∀ n, (∀ j f, j < n → 2 ≤ f → f < 11 → x ≠ 16 + 11 * j + f) → nitC W r n x = W x
  | 0, _ => rfl
  | n + 1, h => by
    rw [nitC]
    split
    · rw [lafC_ne 8 (fun j hj => h n (3 + j) (by omega) (by omega) (by omega)), nitC_ne n (fun j f hj => h j f (by omega))]
    · rw [pk_un (h n 2 (by omega) (by omega) (by omega)), nitC_ne n (fun j f hj => h j f (by omega))]
theorem held_id {j : Nat} (h : j ≤ 99) : heldR (nI j + 0) 99 = nI j := by
  rw [Int32.add_zero]
  unfold heldR
  have h1 : nI j ≤ nI 99 := nI_le (by omega) (by decide)
  rw [if_neg (nI_pos (by omega)), if_neg (Int32.not_lt.mpr (show nI j ≤ 99 from h1))]
theorem remR_idn {W r : Nat → Int32} {k : Nat} (hr : r k = 8) (hi : ¬ W (16 + 11 * k + 2) = 0) (hn : ∀ p, p < 8 → rg (W (16 + 11 * k + (3 + p))) 99) : ∀ n, n ≤ 8 → remR W r k n = W
  | 0, _ => rfl
  | n + 1, h => by
    have h8 : ¬ r k = nI n := by
      rw [hr]
      intro z
      have := (nI_eq (a := 8) (b := n) (by omega) (by omega)).mp z
      omega
    obtain ⟨j, hj, ej⟩ := hn n (by omega)
    rw [remR, remR_idn hr hi hn n (by omega), chgR, if_neg h8, if_neg hi]
    have e : heldR (W (16 + 11 * k + (3 + n)) + 0) 99 = W (16 + 11 * k + (3 + n)) := by rw [ej]; exact held_id hj
    rw [e]
    exact upd_self
theorem remR_laf {W r : Nat → Int32} {k : Nat} (hi : W (16 + 11 * k + 2) = 0) : ∀ n, remR W r k n = lafC W r k n
  | 0 => rfl
  | n + 1 => by
    have e : chgR W r k n = chC W r k n := by
      unfold chgR chC
      by_cases c : r k = nI n
      · rw [if_pos c, if_pos c.symm]
      · rw [if_neg c, if_pos hi, if_neg (fun z => c z.symm)]
    rw [remR, lafC, remR_laf hi n, e]
theorem nitC_e {W r : Nat → Int32} (hN : InvN W) (hr : ∀ k, k < plR W → ¬ W (16 + 11 * k + 2) = 0 → r k = 8) (h8 : plR W ≤ 8) : ∀ k, k ≤ plR W → nitC W r k = nitR W r k
  | 0, _ => rfl
  | k + 1, h => by
    have ih := nitC_e hN hr h8 k (by omega)
    have row : ∀ f, f < 11 → nitR W r k (16 + 11 * k + f) = W (16 + 11 * k + f) := fun f hf => nitR_ne k (fun j f2 h1 h2 h3 => by omega)
    obtain ⟨j, hj, ej⟩ := (hN.2.2 k (by omega)).2.1
    rw [nitC, nitR, ih]
    by_cases c : W (16 + 11 * k + 2) = 0
    · rw [if_pos c, ← remR_laf (by rw [row 2 (by omega)]; exact c), if_neg (by rw [c]; decide)]
      have e : remR (nitR W r k) r k 8 (16 + 11 * k + 2) = 0 := by rw [remR_ne 8 (fun j hj => by omega), row 2 (by omega)]; exact c
      exact (upd_self.symm.trans (by rw [e]))
    · have j0 : 0 < j := by
        rcases Nat.eq_zero_or_pos j with z | z
        · exact absurd (by rw [ej, z]; rfl) c
        · exact z
      have hpos : 0 < W (16 + 11 * k + 2) := by rw [ej]; exact nI_lt (a := 0) j0 (by omega)
      rw [if_neg c, if_pos hpos, remR_idn (hr k (by omega) c) (by rw [row 2 (by omega)]; exact c) (fun p hp => by rw [row (3 + p) (by omega)]; exact (hN.2.2 k (by omega)).2.2 p hp) 8 (Nat.le_refl _)]
theorem nitC_cong {W r r' : Nat → Int32} : ∀ n, (∀ x, x < n → r x = r' x) → nitC W r n = nitC W r' n
  | 0, _ => rfl
  | n + 1, h => by
    have hl : ∀ (V : Nat → Int32) m, lafC V r n m = lafC V r' n m := by
      intro V m
      induction m with
      | zero => rfl
      | succ m ih => rw [lafC, lafC, ih, chC, chC, h n (by omega)]
    rw [nitC, nitC, nitC_cong n (fun x hx => h x (by omega)), hl]
theorem upd_comm {W : Nat → Int32} {i j : Nat} {x y : Int32} (h : i ≠ j) : upd (upd W i x) j y = upd (upd W j y) i x := by
  funext q
  unfold upd
  by_cases a : q = j
  · rw [if_pos a, if_neg (by omega), if_pos a]
  · rw [if_neg a, if_neg a]
theorem lafC_7 {W r : Nat → Int32} {k : Nat} {t : Int32} : ∀ n, lafC (upd W 7 t) r k n = upd (lafC W r k n) 7 t
  | 0 => rfl
  | n + 1 => by
    have e : chC (upd W 7 t) r k n = chC W r k n := by
      unfold chC
      rw [learnsR_cong (W := W) (V := upd W 7 t) (pk_un (by omega)) (pk_un (by omega)), forgetsR_cong (W := W) (V := upd W 7 t) (pk_un (by omega)) (pk_un (by omega))]
    rw [lafC, lafC, lafC_7 n, e, pk_un (by omega), upd_comm (by omega)]
theorem nitC_7 {W r : Nat → Int32} {t : Int32} : ∀ n, nitC (upd W 7 t) r n = upd (nitC W r n) 7 t
  | 0 => rfl
  | n + 1 => by
    rw [nitC, nitC, nitC_7 n, pk_un (by omega)]
    split
    · exact lafC_7 8
    · exact upd_comm (by omega)
def mnT (x : Int32) : Int32 := if 999999 < x then 999999 else x
def nightC (W : Nat → Int32) : Nat → Int32 := upd (nightR W) 7 (mnT (W 7 + showB W))
/-- who is ill plays nothing -/
theorem bestR_may {W c r : Nat → Int32} {p b : Nat} : ∀ n, n ≤ 8 → bestR W c r p n = nI b → b < 8 → mayR W c r b p = true
  | 0, _, h, hb => absurd (show (-1 : Int32) = nI b from h) (fun z => by have := congrArg Int32.toInt z; rw [nI_toInt (by omega)] at this; have e : (-1 : Int32).toInt = -1 := rfl; omega)
  | n + 1, hn, h, hb => by
    rw [bestR] at h
    split at h
    · next z =>
      have e := (nI_eq (by omega) (by omega)).mp h
      exact e ▸ z.1
    · exact bestR_may n (by omega) h hb
theorem bill_ill {W : Nat → Int32} {k : Nat} (hI : InvR W) (hi : ¬ W (16 + 11 * k + 2) = 0) : ∀ n, n ≤ 8 → (billR W n).2 k = 8
  | 0, _ => rfl
  | n + 1, hn => by
    rw [billR]
    show (if bestR W (billR W n).1 (billR W n).2 n (plR W) < 0 then (billR W n).2 else upd (billR W n).2 (cl (bestR W (billR W n).1 (billR W n).2 n (plR W))) (nI n)) k = 8
    by_cases c : bestR W (billR W n).1 (billR W n).2 n (plR W) < 0
    · rw [if_pos c]; exact bill_ill hI hi n (by omega)
    · rw [if_neg c]
      obtain ⟨y, hy, ey⟩ := bestR_nn (by have := hI.pl.1; omega) c
      rw [ey, cl_nI (by have := hI.pl.1; omega)]
      by_cases e : k = y
      · subst e
        have := bestR_may _ hI.pl.1 ey (by have := hI.pl.1; omega)
        exact absurd (mayR_iff.mp this).2.1 hi
      · rw [pk_un e]; exact bill_ill hI hi n (by omega)
theorem nightC_of {W r V : Nat → Int32} (hI : InvR W) (hN : InvN W) (hr : ∀ x, x < plR W → r x = rol W x) (hv : V = nitC (upd W 7 (mnT (W 7 + showB W))) r (plR W)) : upd V 0 (V 0 + 1) = nightC W := by
  have e1 : nitC W r (plR W) = nitR W (rol W) (plR W) := (nitC_cong _ hr).trans (nitC_e hN (fun k _ hi => bill_ill hI hi 8 (Nat.le_refl _)) hI.pl.1 _ (Nat.le_refl _))
  rw [hv, nitC_7, e1, pk_un (by omega), nitR_ne (x := 0) _ (fun j f _ h1 h2 => by omega)]
  unfold nightC nightR
  rw [upd_comm (i := 7) (j := 0) (by omega), upd_comm (i := 7) (j := 0) (by omega), upd_twice]
  (try exact upd_comm (by omega))
set_option maxRecDepth 20000 in
set_option maxHeartbeats 1000000 in
theorem s_X0_learnAndForget (g : pG) {S : pS} {b : Nat} (hC : Co S b) (k : Nat) (hk : k < 8) : MS g mX0_learnAndForget 2 0 0 [.ref b, .int (nI k)] (S) (eV (fun S1 => fr (frl b [6]) S S1 ∧ vw S1 b = lafC (vw S b) (S.2.2.2 (b + 8)) k 8)) := by
  refine MS.of pn_X0 (Nat.le_of_ble_eq_true rfl) ?_
  have lp : ∀ (j_ : Nat) (p : Nat) (S1 : pS) (hk2 : fr (frl b [6]) S S1) (hv : vw S1 b = lafC (vw S b) (S.2.2.2 (b + 8)) k p) (hp : p ≤ 8), 8 - p < j_ → PW g mX0_learnAndForget (eN g S.1 2 0 0 (eV (fun S1 => fr (frl b [6]) S S1 ∧ vw S1 b = lafC (vw S b) (S.2.2.2 (b + 8)) k 8))) 29 [some (.ref b), some (.int (nI k)), some (.int (S.2.2.2 (b + 8) k)), some (.int (learnsR (vw S b) k)), some (.int (forgetsR (vw S b) k)), some (.int (nI (k * 8))), some (.int (nI p)), none] [] (S1) 0 0 := by
    intro j_
    induction j_ with
    | zero => intro p S1 hk2 hv hp hj; exact absurd hj (Nat.not_lt_zero _)
    | succ j_ ih =>
      intro p S1 hk2 hv hp hj
      have hC1 := hk2.co hC
      refine r_iload dX0_learnAndForget_29 rfl ?_
      refine r_bipush (v := 8) dX0_learnAndForget_31 (by decide) ?_
      refine r_icmp_geN (p) (8) (tgt := 85) dX0_learnAndForget_33 (by decide) (by omega) (by omega) (fun c_33 => ?_) (fun c_33 => ?_)
      · (try dsimp only [Gs_M] at c_33)
        refine r_vret dX0_learnAndForget_85 rfl (Nat.le_refl _) ?_
        (try dsimp only [Gs_M])
        obtain rfl : p = 8 := by omega
        exact ⟨rfl, hk2, hv⟩
      · (try dsimp only [Gs_M] at c_33)
        refine r_iload dX0_learnAndForget_36 rfl ?_
        refine r_iload_n dX0_learnAndForget_38 rfl rfl ?_
        refine r_icmp_ne (tgt := 46) dX0_learnAndForget_39 (by decide) (fun c_39 => ?_) (fun c_39 => ?_)
        · (try dsimp only [Gs_M] at c_39)
          refine r_iload dX0_learnAndForget_46 rfl ?_
          refine r_ineg dX0_learnAndForget_48 ?_
          refine r_istore dX0_learnAndForget_49 (by decide) ?_
          refine r_aload_n dX0_learnAndForget_51 rfl rfl ?_
          refine r_getR (q := (b + 6)) dX0_learnAndForget_52 (ci := 0) (kf := 5) hC1.2.1 (Co_lt hC1) (by decide) (by decide) rfl fl_X0_27 (Or.inl rfl) hC1.2.2.2.2.2.2.2.2.1 ?_
          refine r_iload dX0_learnAndForget_55 rfl ?_
          refine r_iload dX0_learnAndForget_57 rfl ?_
          refine r_iaddN ((k * 8)) (p) dX0_learnAndForget_59 ?_
          refine r_aload_n dX0_learnAndForget_60 rfl rfl ?_
          refine r_getR (q := (b + 6)) dX0_learnAndForget_61 (ci := 0) (kf := 5) hC1.2.1 (Co_lt hC1) (by decide) (by decide) rfl fl_X0_27 (Or.inl rfl) hC1.2.2.2.2.2.2.2.2.1 ?_
          refine r_iload dX0_learnAndForget_64 rfl ?_
          refine r_iload dX0_learnAndForget_66 rfl ?_
          refine r_iaddN ((k * 8)) (p) dX0_learnAndForget_68 ?_
          refine r_iald (j := ((k * 8) + p)) dX0_learnAndForget_69 hC1.2.2.1.2.2.2.2.2.1 (Co_la6 hC1) rfl (by omega) (by decide) ?_
          refine r_iload dX0_learnAndForget_70 rfl ?_
          refine r_iadd dX0_learnAndForget_72 ?_
          refine r_bipush (v := 99) dX0_learnAndForget_73 (by decide) ?_
          refine r_callSN_dI dX0_learnAndForget_75 (s_X11_heldTo g _ _ _) mf_X11_heldTo mt_X11_heldTo (by decide) rfl rfl (Nat.le_of_ble_eq_true rfl) ⟨(Nat.le_of_ble_eq_true rfl), (Nat.le_of_ble_eq_true rfl)⟩ ⟨(Nat.le_of_ble_eq_true rfl), (Nat.le_of_ble_eq_true rfl)⟩ ?_
          refine r_iast (j := ((k * 8) + p)) dX0_learnAndForget_78 hC1.2.2.1.2.2.2.2.2.1 (Co_la6 hC1) rfl (by omega) (by decide) ?_
          refine r_iinc (v := nI (p + 1)) dX0_learnAndForget_79 rfl (nI_1 _) (by decide) ?_
          refine r_goto (tgt := 29) dX0_learnAndForget_82 (by decide) ?_
          exact PW.subL (ih (p + 1) _ (hk2.set (frl_in (by decide))) (by rw [vs_n hk (by omega)]; exact laf_s hv (vw_n hk (by omega)).symm (if_neg (fun z => c_39 z)).symm) (by omega) (by omega)) (by repeat' first | exact True.intro | refine And.intro rfl ?_)
        · (try dsimp only [Gs_M] at c_39)
          refine r_iload_n dX0_learnAndForget_42 rfl rfl ?_
          refine r_goto (tgt := 49) dX0_learnAndForget_43 (by decide) ?_
          refine r_istore dX0_learnAndForget_49 (by decide) ?_
          refine r_aload_n dX0_learnAndForget_51 rfl rfl ?_
          refine r_getR (q := (b + 6)) dX0_learnAndForget_52 (ci := 0) (kf := 5) hC1.2.1 (Co_lt hC1) (by decide) (by decide) rfl fl_X0_27 (Or.inl rfl) hC1.2.2.2.2.2.2.2.2.1 ?_
          refine r_iload dX0_learnAndForget_55 rfl ?_
          refine r_iload dX0_learnAndForget_57 rfl ?_
          refine r_iaddN ((k * 8)) (p) dX0_learnAndForget_59 ?_
          refine r_aload_n dX0_learnAndForget_60 rfl rfl ?_
          refine r_getR (q := (b + 6)) dX0_learnAndForget_61 (ci := 0) (kf := 5) hC1.2.1 (Co_lt hC1) (by decide) (by decide) rfl fl_X0_27 (Or.inl rfl) hC1.2.2.2.2.2.2.2.2.1 ?_
          refine r_iload dX0_learnAndForget_64 rfl ?_
          refine r_iload dX0_learnAndForget_66 rfl ?_
          refine r_iaddN ((k * 8)) (p) dX0_learnAndForget_68 ?_
          refine r_iald (j := ((k * 8) + p)) dX0_learnAndForget_69 hC1.2.2.1.2.2.2.2.2.1 (Co_la6 hC1) rfl (by omega) (by decide) ?_
          refine r_iload dX0_learnAndForget_70 rfl ?_
          refine r_iadd dX0_learnAndForget_72 ?_
          refine r_bipush (v := 99) dX0_learnAndForget_73 (by decide) ?_
          refine r_callSN_dI dX0_learnAndForget_75 (s_X11_heldTo g _ _ _) mf_X11_heldTo mt_X11_heldTo (by decide) rfl rfl (Nat.le_of_ble_eq_true rfl) ⟨(Nat.le_of_ble_eq_true rfl), (Nat.le_of_ble_eq_true rfl)⟩ ⟨(Nat.le_of_ble_eq_true rfl), (Nat.le_of_ble_eq_true rfl)⟩ ?_
          refine r_iast (j := ((k * 8) + p)) dX0_learnAndForget_78 hC1.2.2.1.2.2.2.2.2.1 (Co_la6 hC1) rfl (by omega) (by decide) ?_
          refine r_iinc (v := nI (p + 1)) dX0_learnAndForget_79 rfl (nI_1 _) (by decide) ?_
          refine r_goto (tgt := 29) dX0_learnAndForget_82 (by decide) ?_
          exact PW.subL (ih (p + 1) _ (hk2.set (frl_in (by decide))) (by rw [vs_n hk (by omega)]; exact laf_s hv (vw_n hk (by omega)).symm (if_pos c_39).symm) (by omega) (by omega)) (by repeat' first | exact True.intro | refine And.intro rfl ?_)
  refine r_aload_n dX0_learnAndForget_0 rfl rfl ?_
  refine r_getR (q := (b + 8)) dX0_learnAndForget_1 (ci := 0) (kf := 11) hC.2.1 (Co_lt hC) (by decide) (by decide) rfl fl_X0_37 (Or.inl rfl) hC.2.2.2.2.2.2.2.2.2.2 ?_
  refine r_iload_n dX0_learnAndForget_4 rfl rfl ?_
  refine r_iald (j := k) dX0_learnAndForget_5 hC.2.2.1.2.2.2.2.2.2.2 (Co_la8 hC) rfl (by omega) (by decide) ?_
  refine r_istore_n dX0_learnAndForget_6 rfl (by decide) ?_
  refine r_aload_n dX0_learnAndForget_7 rfl rfl ?_
  refine r_iload_n dX0_learnAndForget_8 rfl rfl ?_
  refine r_callV_dI (ci := 0) dX0_learnAndForget_9 (s_X0_learns g hC (k) (by omega)) mf_X0_learns mi_X0_learns se_X0_X0_X0_learns ml_X0_97 rfl rfl (Co_lt hC) hC.2.1 (by decide) rfl (Nat.le_of_ble_eq_true rfl) ⟨(Nat.le_of_ble_eq_true rfl), (Nat.le_of_ble_eq_true rfl)⟩ ⟨(Nat.le_of_ble_eq_true rfl), (Nat.le_of_ble_eq_true rfl)⟩ ?_
  refine r_istore_n dX0_learnAndForget_12 rfl (by decide) ?_
  refine r_aload_n dX0_learnAndForget_13 rfl rfl ?_
  refine r_iload_n dX0_learnAndForget_14 rfl rfl ?_
  refine r_callV_dI (ci := 0) dX0_learnAndForget_15 (s_X0_forgets g hC (k) (by omega)) mf_X0_forgets mi_X0_forgets se_X0_X0_X0_forgets ml_X0_100 rfl rfl (Co_lt hC) hC.2.1 (by decide) rfl (Nat.le_of_ble_eq_true rfl) ⟨(Nat.le_of_ble_eq_true rfl), (Nat.le_of_ble_eq_true rfl)⟩ ⟨(Nat.le_of_ble_eq_true rfl), (Nat.le_of_ble_eq_true rfl)⟩ ?_
  refine r_istore dX0_learnAndForget_18 (by decide) ?_
  refine PW.subL (L' := [some (.ref b), some (.int (nI k)), some (.int (S.2.2.2 (b + 8) k)), some (.int (learnsR (vw S b) k)), some (.int (forgetsR (vw S b) k)), none, none, none]) ?_ (by repeat' first | exact True.intro | refine And.intro rfl ?_)
  refine r_iload_n dX0_learnAndForget_20 rfl rfl ?_
  refine r_bipush (v := 8) dX0_learnAndForget_21 (by decide) ?_
  refine r_imulN (k) (8) dX0_learnAndForget_23 ?_
  refine r_istore dX0_learnAndForget_24 (by decide) ?_
  refine r_iconst (v := 0) dX0_learnAndForget_26 (by decide) ?_
  refine r_istore dX0_learnAndForget_27 (by decide) ?_
  exact PW.subL (lp 9 0 S fr.rf lafC_0.symm (by omega) (by omega)) (by repeat' first | exact True.intro | refine And.intro rfl ?_)
set_option maxRecDepth 20000 in
set_option maxHeartbeats 1000000 in
theorem s_X0_playNight (g : pG) {S : pS} {b : Nat} (hC : Co S b) (hI : InvR (vw S b)) (hN : InvN (vw S b)) : MS g mX0_playNight 4 0 0 [.ref b] (S) (eI (fun x S1 => x = showB (vw S b) ∧ fr (frl b [0, 5, 6, 7, 8]) S S1 ∧ vw S1 b = nightC (vw S b) ∧ (∀ x, x < 8 → S1.2.2.2 (b + 7) x = cst (vw S b) x) ∧ ∀ x, x < plR (vw S b) → S1.2.2.2 (b + 8) x = rol (vw S b) x)) := by
  obtain ⟨h8, hpl⟩ := hI.pl
  have hpl : S.2.2.2 b 6 = nI (plR (vw S b)) := hpl
  refine MS.of pn_X0 (Nat.le_of_ble_eq_true rfl) ?_
  refine r_aload_n dX0_playNight_0 rfl rfl ?_
  refine r_callV_eV (ci := 0) dX0_playNight_1 (s_X0_makeBill g hC hI hN) mf_X0_makeBill mi_X0_makeBill se_X0_X0_X0_makeBill ml_X0_80 rfl rfl (Co_lt hC) hC.2.1 (by decide) rfl (Nat.le_of_ble_eq_true rfl) ⟨(Nat.le_of_ble_eq_true rfl), (Nat.le_of_ble_eq_true rfl)⟩ ⟨(Nat.le_of_ble_eq_true rfl), (Nat.le_of_ble_eq_true rfl)⟩ (fun S_1 hq1 z_1 => ?_)
  have hC1 := hq1.1.co hC
  have e1 : vw S_1 b = vw S b := hq1.1.vw (fun c hc => frl_no (by simp; omega))
  have hcc : cOk (S_1.2.2.2 (b + 7)) := fun x hx => by rw [hq1.2.1 x hx]; exact cst_ok hI x hx
  refine r_aload_n dX0_playNight_4 rfl rfl ?_
  refine r_callV_dI (ci := 0) dX0_playNight_5 (s_X0_show g hC1 hcc) mf_X0_show mi_X0_show se_X0_X0_X0_show ml_X0_83 rfl rfl (Co_lt hC1) hC1.2.1 (by decide) rfl (Nat.le_of_ble_eq_true rfl) ⟨(Nat.le_of_ble_eq_true rfl), (Nat.le_of_ble_eq_true rfl)⟩ ⟨(Nat.le_of_ble_eq_true rfl), (Nat.le_of_ble_eq_true rfl)⟩ ?_
  rw [show showR (vw S_1 b) (S_1.2.2.2 (b + 7)) 8 = showB (vw S b) by rw [e1]; exact showR_cong hq1.2.1 8 (Nat.le_refl _)]
  refine r_istore_n dX0_playNight_8 rfl (by decide) ?_
  refine r_aload_n dX0_playNight_9 rfl rfl ?_
  refine r_aload_n dX0_playNight_10 rfl rfl ?_
  refine r_getI dX0_playNight_11 (ci := 0) (kf := 8) hC1.2.1 (Co_lt hC1) (by decide) (by decide) rfl fl_X0_58 (Or.inl rfl) ?_
  rw [show S_1.2.2.2 b 8 = vw S b 7 by rw [← vw_7, e1]]
  refine r_iload_n dX0_playNight_14 rfl rfl ?_
  refine r_iadd dX0_playNight_15 ?_
  refine r_ldc dX0_playNight_16 kc_X0_87 ?_
  refine r_mmin dX0_playNight_18 ml_X0_88 (Nat.le_of_ble_eq_true rfl) (Nat.le_of_ble_eq_true rfl) (Nat.le_of_ble_eq_true rfl) (Nat.le_of_ble_eq_true rfl) (Nat.le_of_ble_eq_true rfl) ?_
  refine r_putI dX0_playNight_21 (ci := 0) (kf := 8) hC1.2.1 (Co_lt hC1) (by decide) (by decide) rfl fl_X0_58 (Or.inl rfl) rfl rfl rfl ?_
  refine r_iconst (v := 0) dX0_playNight_24 (by decide) ?_
  refine r_istore_n dX0_playNight_25 rfl (by decide) ?_
  have lp : ∀ (j_ : Nat) (k : Nat) (S3 : pS) (hk : fr (frl b [0, 5, 6, 7, 8]) S S3) (hv : vw S3 b = nitC (upd (vw S b) 7 (mnT (vw S b 7 + showB (vw S b)))) (S_1.2.2.2 (b + 8)) k) (h7 : S3.2.2.2 (b + 7) = S_1.2.2.2 (b + 7)) (h8r : S3.2.2.2 (b + 8) = S_1.2.2.2 (b + 8)) (hkp : k ≤ plR (vw S b)), plR (vw S b) - k < j_ → PW g mX0_playNight (eN g S.1 4 0 0 (eI (fun x S1 => x = showB (vw S b) ∧ fr (frl b [0, 5, 6, 7, 8]) S S1 ∧ vw S1 b = nightC (vw S b) ∧ (∀ x, x < 8 → S1.2.2.2 (b + 7) x = cst (vw S b) x) ∧ ∀ x, x < plR (vw S b) → S1.2.2.2 (b + 8) x = rol (vw S b) x))) 26 [some (.ref b), some (.int (showB (vw S b))), some (.int (nI k))] [] (S3) 0 0 := by
    intro j_
    induction j_ with
    | zero => intro k S3 hk hv h7 h8r hkp hj; exact absurd hj (Nat.not_lt_zero _)
    | succ j_ ih =>
      intro k S3 hk hv h7 h8r hkp hj
      have hC3 := hk.co hC
      have e6 : S3.2.2.2 b 6 = nI (plR (vw S b)) := by
        rw [← vw_6, hv, nitC_ne k (fun j f _ h1 h2 => by omega), pk_un (by omega)]
        exact hpl
      refine r_iload_n dX0_playNight_26 rfl rfl ?_
      refine r_aload_n dX0_playNight_27 rfl rfl ?_
      refine r_getI dX0_playNight_28 (ci := 0) (kf := 6) hC3.2.1 (Co_lt hC3) (by decide) (by decide) rfl fl_X0_52 (Or.inl rfl) ?_
      rw [e6]
      refine r_icmp_geN (k) (plR (vw S b)) (tgt := 67) dX0_playNight_31 (by decide) (by omega) (by omega) (fun c_31 => ?_) (fun c_31 => ?_)
      · (try dsimp only [Gs_M] at c_31)
        refine r_aload_n dX0_playNight_67 rfl rfl ?_
        refine r_dup dX0_playNight_68 rfl ?_
        refine r_getI dX0_playNight_69 (ci := 0) (kf := 7) hC3.2.1 (Co_lt hC3) (by decide) (by decide) rfl fl_X0_55 (Or.inl rfl) ?_
        refine r_iconst (v := 1) dX0_playNight_72 (by decide) ?_
        refine r_iadd dX0_playNight_73 ?_
        refine r_putI dX0_playNight_74 (ci := 0) (kf := 7) hC3.2.1 (Co_lt hC3) (by decide) (by decide) rfl fl_X0_55 (Or.inl rfl) rfl rfl rfl ?_
        refine r_iload_n dX0_playNight_77 rfl rfl ?_
        refine r_iret dX0_playNight_78 rfl (Nat.le_refl _) ?_
        (try dsimp only [Gs_M])
        have ek : k = plR (vw S b) := by omega
        subst ek
        refine ⟨_, rfl, rfl, hk.set (frl_0 (by decide)), ?_, ?_, ?_⟩
        · rw [vs_0]
          exact nightC_of hI hN hq1.2.2 hv
        · intro x hx
          rw [mSet_ne (by omega), h7]
          exact hq1.2.1 x hx
        · intro x hx
          rw [mSet_ne (by omega), h8r]
          exact hq1.2.2 x hx
      · (try dsimp only [Gs_M] at c_31)
        have ei : S3.2.2.2 (b + 5) k = (upd (vw S b) 7 (mnT (vw S b 7 + showB (vw S b)))) (16 + 11 * k + 2) := by
          rw [← vw_i (by omega), hv, nitC_ne k (fun j f h0 h1 h2 => by omega)]
        refine r_aload_n dX0_playNight_34 rfl rfl ?_
        refine r_getR (q := (b + 5)) dX0_playNight_35 (ci := 0) (kf := 4) hC3.2.1 (Co_lt hC3) (by decide) (by decide) rfl fl_X0_24 (Or.inl rfl) hC3.2.2.2.2.2.2.2.1 ?_
        refine r_iload_n dX0_playNight_38 rfl rfl ?_
        refine r_iald (j := k) dX0_playNight_39 hC3.2.2.1.2.2.2.2.1 (Co_la5 hC3) rfl (by omega) (by decide) ?_
        refine r_if_ne (tgt := 51) dX0_playNight_40 (by decide) (fun c_40 => ?_) (fun c_40 => ?_)
        · (try dsimp only [Gs_M] at c_40)
          refine r_aload_n dX0_playNight_51 rfl rfl ?_
          refine r_getR (q := (b + 5)) dX0_playNight_52 (ci := 0) (kf := 4) hC3.2.1 (Co_lt hC3) (by decide) (by decide) rfl fl_X0_24 (Or.inl rfl) hC3.2.2.2.2.2.2.2.1 ?_
          refine r_iload_n dX0_playNight_55 rfl rfl ?_
          refine r_dup2 dX0_playNight_56 rfl rfl ?_
          refine r_iald (j := k) dX0_playNight_57 hC3.2.2.1.2.2.2.2.1 (Co_la5 hC3) rfl (by omega) (by decide) ?_
          refine r_iconst (v := 1) dX0_playNight_58 (by decide) ?_
          refine r_isub dX0_playNight_59 ?_
          refine r_iast (j := k) dX0_playNight_60 hC3.2.2.1.2.2.2.2.1 (Co_la5 hC3) rfl (by omega) (by decide) ?_
          refine r_iinc (v := nI (k + 1)) dX0_playNight_61 rfl (nI_1 _) (by decide) ?_
          refine r_goto (tgt := 26) dX0_playNight_64 (by decide) ?_
          refine PW.subL (ih (k + 1) _ (hk.set (frl_in (by decide))) ?_ (by rw [mSet_ne (by omega)]; exact h7) (by rw [mSet_ne (by omega)]; exact h8r) (by omega) (by omega)) (by repeat' first | exact True.intro | refine And.intro rfl ?_)
          rw [vs_i (by omega), nitC, if_neg (by rw [← ei]; exact c_40), ← hv, ← ei]
        · (try dsimp only [Gs_M] at c_40)
          refine r_aload_n dX0_playNight_43 rfl rfl ?_
          refine r_iload_n dX0_playNight_44 rfl rfl ?_
          refine r_callV_eV (ci := 0) dX0_playNight_45 (s_X0_learnAndForget g hC3 (k) (by omega)) mf_X0_learnAndForget mi_X0_learnAndForget se_X0_X0_X0_learnAndForget ml_X0_93 rfl rfl (Co_lt hC3) hC3.2.1 (by decide) rfl (Nat.le_of_ble_eq_true rfl) ⟨(Nat.le_of_ble_eq_true rfl), (Nat.le_of_ble_eq_true rfl)⟩ ⟨(Nat.le_of_ble_eq_true rfl), (Nat.le_of_ble_eq_true rfl)⟩ (fun S_45 q_45 z_45 => ?_)
          refine r_goto (tgt := 61) dX0_playNight_48 (by decide) ?_
          refine r_iinc (v := nI (k + 1)) dX0_playNight_61 rfl (nI_1 _) (by decide) ?_
          refine r_goto (tgt := 26) dX0_playNight_64 (by decide) ?_
          obtain ⟨f45, v45⟩ := q_45
          refine PW.subL (ih (k + 1) _ (hk.tr (f45.mono (frl_mono (by decide)))) ?_ ((f45.2 _ (frl_no (by decide))).trans h7) ((f45.2 _ (frl_no (by decide))).trans h8r) (by omega) (by omega)) (by repeat' first | exact True.intro | refine And.intro rfl ?_)
          rw [v45, nitC, if_pos (by rw [← ei]; exact c_40), ← hv, h8r]
  refine PW.subL (lp (plR (vw S b) + 1) 0 _ ((hq1.1.mono (frl_mono (by decide))).set (frl_0 (by decide))) ?_ (mSet_ne (by omega)) (mSet_ne (by omega)) (by omega) (by omega)) (by repeat' first | exact True.intro | refine And.intro rfl ?_)
  rw [vs_7, e1]
  exact nitC_0.symm
