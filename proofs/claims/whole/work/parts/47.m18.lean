/-! ===== acts ===== -/
abbrev aT := (Nat → Int32) × Nat × Int32
def stA (b : Int32) (A : aT) : aT := (if A.2.1 < 30 then upd A.1 A.2.1 b else A.1, if A.2.1 < 30 then A.2.1 + 1 else A.2.1, A.2.2)
theorem stA_le {b : Int32} {A : aT} (h : A.2.1 ≤ 30) : (stA b A).2.1 ≤ 30 := by
  show (if A.2.1 < 30 then A.2.1 + 1 else A.2.1) ≤ 30
  split <;> omega
def acS (M : Nat → Nat → Int32) (A : aT) : Nat → Nat → Int32 := fun q => if q = 70 then A.1 else if q = 54 then (fun f => if f = 24 then nI A.2.1 else if f = 26 then A.2.2 else M 54 f) else M q
theorem acS_own {M : Nat → Nat → Int32} {A : aT} : (Gs (acS M A)).2.2.2 54 25 = M 54 25 := rfl
theorem acS_tr {M : Nat → Nat → Int32} {A : aT} : (Gs (acS M A)).2.2.2 54 24 = nI A.2.1 := rfl
theorem acS_par {M : Nat → Nat → Int32} {A : aT} : acS M A 54 26 = A.2.2 := rfl
theorem acS_55 {M : Nat → Nat → Int32} {A : aT} : (Gs (acS M A)).2.2.2 55 = M 55 := rfl
theorem acS_b {M : Nat → Nat → Int32} {A : aT} {v : Int32} {n : Nat} : mSet (mSet (Gs (acS M A)) 70 n v) 54 24 (nI (n + 1)) = Gs (acS M (upd A.1 n v, n + 1, A.2.2)) := by
  refine congrArg (fun f => ((71, sh0, rf0, f) : pS)) ?_
  funext q
  by_cases h : q = 70
  · subst h; rfl
  · by_cases h2 : q = 54
    · subst h2
      funext f
      by_cases h3 : f = 24
      · subst h3; rfl
      · show upd _ 24 _ f = _
        rw [pk_un h3]
        show (if f = 24 then _ else _) = (if f = 24 then _ else _)
        rw [if_neg h3, if_neg h3]
    · have e1 : (mSet (mSet (Gs (acS M A)) 70 n v) 54 24 (nI (n + 1))).2.2.2 q = acS M A q := by rw [mSet_ne h2, mSet_ne h]; rfl
      refine e1.trans ?_
      show (if q = 70 then _ else if q = 54 then _ else _) = (if q = 70 then _ else if q = 54 then _ else _)
      rw [if_neg h, if_neg h2, if_neg h, if_neg h2]
theorem acS_p {M : Nat → Nat → Int32} {A : aT} {v : Int32} : mSet (Gs (acS M A)) 54 26 v = Gs (acS M (A.1, A.2.1, v)) := by
  refine congrArg (fun f => ((71, sh0, rf0, f) : pS)) ?_
  funext q
  by_cases h2 : q = 54
  · subst h2
    funext f
    by_cases h3 : f = 26
    · subst h3; rfl
    · show upd _ 26 _ f = _
      rw [pk_un h3]
      show (if f = 24 then _ else if f = 26 then _ else _) = (if f = 24 then _ else if f = 26 then _ else _)
      rw [if_neg h3, if_neg h3]
  · have e1 : (mSet (Gs (acS M A)) 54 26 v).2.2.2 q = acS M A q := by rw [mSet_ne h2]; rfl
    refine e1.trans ?_
    show (if q = 70 then _ else if q = 54 then _ else _) = (if q = 70 then _ else if q = 54 then _ else _)
    rw [if_neg h2, if_neg h2]
def bowK (ko : Nat) : Nat → Int32 → aT → Int32 × aT
  | 2, x, A => (-(x * 6 - nI ko), stA 10 (stA 30 A))
  | 3, x, A => ((x * 6 - nI ko) * 2, stA 10 (stA 51 A))
  | 4, x, A => (-(x * 6 - nI ko) + 5, stA 10 (stA 30 (stA 40 A)))
  | _, x, A => (x * 6 - nI ko, stA 10 A)
theorem bowK_le {ko k : Nat} {x : Int32} {A : aT} (h : A.2.1 ≤ 30) : (bowK ko k x A).2.2.1 ≤ 30 := by
  unfold bowK
  split <;> (repeat' first | exact h | refine stA_le ?_)
def sng0 (ko kd : Nat) (o1 x : Int32) (A : aT) : Int32 × aT := ((bowK ko kd x (stA 11 A)).1 + o1 * 2, (bowK ko kd x (stA 11 A)).2)
def sngK (ko kd : Nat) (o1 : Int32) : Nat → Int32 → aT → Int32 × aT
  | 1, x, A => ((sng0 ko kd o1 x (stA 20 A)).1 * 3, (sng0 ko kd o1 x (stA 20 A)).2)
  | 3, x, A => ((sng0 ko kd o1 x (stA 20 A)).1 * 3, (sng0 ko kd o1 x (stA 20 A)).2)
  | 4, x, A => ((sng0 ko kd o1 x (stA 41 A)).1 ^^^ (bowK ko 4 o1 (sng0 ko kd o1 x (stA 41 A)).2).1, (bowK ko 4 o1 (sng0 ko kd o1 x (stA 41 A)).2).2)
  | _, x, A => sng0 ko kd o1 x A
theorem sng0_le {ko kd : Nat} {o1 x : Int32} {A : aT} (h : A.2.1 ≤ 30) : (sng0 ko kd o1 x A).2.2.1 ≤ 30 := bowK_le (stA_le h)
theorem sngK_le {ko kd k : Nat} {o1 x : Int32} {A : aT} (h : A.2.1 ≤ 30) : (sngK ko kd o1 k x A).2.2.1 ≤ 30 := by
  unfold sngK
  split
  · exact sng0_le (o1 := o1) (x := x) (stA_le h)
  · exact sng0_le (o1 := o1) (x := x) (stA_le h)
  · exact bowK_le (sng0_le (o1 := o1) (x := x) (stA_le h))
  · exact sng0_le h
def prt0 (ko : Nat) (o1 x : Int32) (A : aT) : Int32 × aT := if A.2.2 = 0 ∧ ¬ o1 - nI ko = 0 then (if o1 - nI ko = -1 then -x else x / (o1 - nI ko), (stA 12 A).1, (stA 12 A).2.1, 0) else (0, (stA 12 A).1, (stA 12 A).2.1, 1)
theorem prt0_le {ko : Nat} {o1 x : Int32} {A : aT} (h : A.2.1 ≤ 30) : (prt0 ko o1 x A).2.2.1 ≤ 30 := by
  unfold prt0
  split <;> exact stA_le (b := 12) h
def prtK (ko : Nat) (o1 : Int32) : Nat → Int32 → aT → Int32 × aT
  | 3, x, A => ((prt0 ko o1 (x - 7) (stA 50 A)).1 - o1, (prt0 ko o1 (x - 7) (stA 50 A)).2)
  | 5, x, A => if (prt0 ko o1 x (stA 61 A)).2.2.2 = 0 then ((prt0 ko o1 x (stA 61 A)).1 * (bowK ko 5 (nI ko) (prt0 ko o1 x (stA 61 A)).2).1, (bowK ko 5 (nI ko) (prt0 ko o1 x (stA 61 A)).2).2) else (0, (prt0 ko o1 x (stA 61 A)).2)
  | _, x, A => prt0 ko o1 x A
theorem prtK_le {ko k : Nat} {o1 x : Int32} {A : aT} (h : A.2.1 ≤ 30) : (prtK ko o1 k x A).2.2.1 ≤ 30 := by
  unfold prtK
  split
  · exact prt0_le (stA_le h)
  · split
    · exact bowK_le (prt0_le (stA_le h))
    · exact prt0_le (stA_le h)
  · exact prt0_le h
def mov0 (ko kd : Nat) (o1 x : Int32) (A : aT) : Int32 × aT := ((sngK ko kd o1 kd x (stA 13 A)).1 ^^^ 220, (sngK ko kd o1 kd x (stA 13 A)).2)
def movK (ko kd : Nat) (o1 : Int32) : Nat → Int32 → aT → Int32 × aT
  | 2, x, A => ((mov0 ko kd o1 x (stA 31 A)).1 + (prtK ko o1 kd (nI ko) (mov0 ko kd o1 x (stA 31 A)).2).1, (prtK ko o1 kd (nI ko) (mov0 ko kd o1 x (stA 31 A)).2).2)
  | 4, x, A => ((mov0 ko kd o1 x (stA 31 A)).1 + (prtK ko o1 kd (nI ko) (mov0 ko kd o1 x (stA 31 A)).2).1, (prtK ko o1 kd (nI ko) (mov0 ko kd o1 x (stA 31 A)).2).2)
  | 5, x, A => ((mov0 ko kd o1 x (stA 60 A)).1 - 1, (mov0 ko kd o1 x (stA 60 A)).2)
  | _, x, A => mov0 ko kd o1 x A
theorem mov0_le {ko kd : Nat} {o1 x : Int32} {A : aT} (h : A.2.1 ≤ 30) : (mov0 ko kd o1 x A).2.2.1 ≤ 30 := sngK_le (stA_le h)
theorem movK_le {ko kd k : Nat} {o1 x : Int32} {A : aT} (h : A.2.1 ≤ 30) : (movK ko kd o1 k x A).2.2.1 ≤ 30 := by
  unfold movK
  split
  · exact prtK_le (mov0_le (o1 := o1) (x := x) (stA_le h))
  · exact prtK_le (mov0_le (o1 := o1) (x := x) (stA_le h))
  · exact mov0_le (o1 := o1) (x := x) (stA_le h)
  · exact mov0_le h
set_option maxRecDepth 20000 in
set_option maxHeartbeats 1000000 in
theorem s_X12_starts (g : pG) {M : Nat → Nat → Int32} {A : aT} (hA : A.2.1 ≤ 30) (b : Int32) : MS g mX12_starts 1 0 0 [.ref 54, .int b] (Gs (acS M A)) (dV (Gs (acS M (stA b A)))) := by
  refine MS.of pn_X12 (Nat.le_of_ble_eq_true rfl) ?_
  refine r_aload_n dX12_starts_0 rfl rfl ?_
  refine r_getI dX12_starts_1 (ci := 12) (kf := 24) rfl (Nat.le_of_ble_eq_true rfl) (by decide) (by decide) rfl fl_X12_256 (Or.inl rfl) ?_
  rw [acS_tr]
  refine r_bipush (v := 30) dX12_starts_4 (by decide) ?_
  refine r_icmp_geN (A.2.1) (30) (tgt := 29) dX12_starts_6 (by decide) (by omega) (by omega) (fun c_6 => ?_) (fun c_6 => ?_)
  · (try dsimp only [Gs_M] at c_6)
    refine r_vret dX12_starts_29 rfl (Nat.le_refl _) ?_
    (try dsimp only [Gs_M])
    refine ⟨rfl, ?_⟩
    rw [stA, if_neg (by omega), if_neg (by omega)]
  · (try dsimp only [Gs_M] at c_6)
    refine r_aload_n dX12_starts_9 rfl rfl ?_
    refine r_getR (q := 70) dX12_starts_10 (ci := 12) (kf := 23) rfl (Nat.le_of_ble_eq_true rfl) (by decide) (by decide) rfl fl_X12_56 (Or.inl rfl) rfl ?_
    refine r_aload_n dX12_starts_13 rfl rfl ?_
    refine r_getI dX12_starts_14 (ci := 12) (kf := 24) rfl (Nat.le_of_ble_eq_true rfl) (by decide) (by decide) rfl fl_X12_256 (Or.inl rfl) ?_
    rw [acS_tr]
    refine r_iload_n dX12_starts_17 rfl rfl ?_
    refine r_iast (j := A.2.1) dX12_starts_18 rfl (Nat.le_of_ble_eq_true rfl) rfl (by omega) (by decide) ?_
    refine r_aload_n dX12_starts_19 rfl rfl ?_
    refine r_dup dX12_starts_20 rfl ?_
    refine r_getI dX12_starts_21 (ci := 12) (kf := 24) rfl (Nat.le_of_ble_eq_true rfl) (by decide) (by decide) rfl fl_X12_256 (Or.inl rfl) ?_
    rw [show (mSet (Gs (acS M A)) 70 A.2.1 b).2.2.2 54 24 = nI A.2.1 by rw [mSet_ne (by decide)]; rfl]
    refine r_iconst (v := 1) dX12_starts_24 (by decide) ?_
    refine r_iaddN (A.2.1) (1) dX12_starts_25 ?_
    refine r_putI dX12_starts_26 (ci := 12) (kf := 24) rfl (Nat.le_of_ble_eq_true rfl) (by decide) (by decide) rfl fl_X12_256 (Or.inl rfl) rfl rfl rfl ?_
    refine r_vret dX12_starts_29 rfl (Nat.le_refl _) ?_
    (try dsimp only [Gs_M])
    refine ⟨rfl, ?_⟩
    rw [stA, if_pos (by omega), if_pos (by omega)]
    exact acS_b
