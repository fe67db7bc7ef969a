theorem bD_f {p : Prop} [Decidable p] (h : ¬ p) : bI (decide p = true) = 0 := bI_f (fun z => h (of_decide_eq_true z))
theorem bD_t {p : Prop} [Decidable p] (h : p) : bI (decide p = true) = 1 := bI_t (decide_eq_true h)
abbrev tpP (M : Nat → Nat → Int32) (R : Nat → Int32) (P : pT) : Nat → Nat → Int32 := tpS M R P.1 P.2.1 P.2.2.1 P.2.2.2
theorem s_next (g : pG) {M : Nat → Nat → Int32} {R : Nat → Int32} {n : Nat} (hn : n ≤ 200) (en : M 54 9 = nI n) {P : pT} (he : P.1 ≤ n) : MS g mX12_next 4 0 0 [.ref 54] (Gs (tpP M R P)) (dV (Gs (tpP M R (nextR (M 62) (M 61) n P)))) := s_X12_next g hn en P.1 P.2.1 P.2.2.1 P.2.2.2 he
def tkP (L b : Nat → Int32) (n : Nat) (P : pT) (w : Int32) : pT := if P.2.2.1 = w then nextR L b n P else P
def tnV (P : pT) (m : Int32) : Int32 := if P.2.2.1 = 100 ∧ P.2.2.2 ≤ m then P.2.2.2 else -1
def tnP (L b : Nat → Int32) (n : Nat) (P : pT) (m : Int32) : pT := if tnV P m < 0 then P else nextR L b n P
theorem tkP_le {L b : Nat → Int32} {n : Nat} {P : pT} {w : Int32} (h : P.1 ≤ n) : (tkP L b n P w).1 ≤ n := by
  unfold tkP; split
  · exact (nextR_le h).1
  · exact h
theorem tnP_le {L b : Nat → Int32} {n : Nat} {P : pT} {m : Int32} (h : P.1 ≤ n) : (tnP L b n P m).1 ≤ n := by
  unfold tnP; split
  · exact h
  · exact (nextR_le h).1
theorem tn_rng {P : pT} {m : Int32} (k : Nat) (hm : m.toInt = (k : Int)) (h : ¬ tnV P m < 0) : ∃ j, j ≤ k ∧ tnV P m = nI j := by
  refine rng k hm ⟨Int32.not_lt.mp h, ?_⟩
  unfold tnV at h ⊢
  by_cases c : P.2.2.1 = 100 ∧ P.2.2.2 ≤ m
  · rw [if_pos c]; exact c.2
  · rw [if_neg c] at h; exact absurd (by decide) h
def wgF (L b : Nat → Int32) (n : Nat) (R : Nat → Int32) (P : pT) : Bool × (Nat → Int32) × pT :=
  if tnV (nextR L b n P) 7 < 0 then (false, R, tnP L b n (nextR L b n P) 7)
  else (decide (¬ tnV (tnP L b n (nextR L b n P) 7) 9 < 0), upd R (8 + cl (tnV (nextR L b n P) 7)) (tnV (tnP L b n (nextR L b n P) 7) 9), tnP L b n (tnP L b n (nextR L b n P) 7) 9)
def lwF (L b : Nat → Int32) (n : Nat) (w : Nat) (R : Nat → Int32) (P : pT) : Bool × (Nat → Int32) × pT :=
  if w = 1 ∨ w = 2 then (decide (¬ tnV (nextR L b n P) 9 < 0), upd R w (tnV (nextR L b n P) 9), tnP L b n (nextR L b n P) 9)
  else (decide (¬ tnV (nextR L b n P) 99 < 0), upd R w (tnV (nextR L b n P) 99), tnP L b n (nextR L b n P) 99)
def skF (L b : Nat → Int32) (n : Nat) (P : pT) : Int32 × pT := if P.2.2.1 = 12 then (tnV (nextR L b n P) 99, tnP L b n (nextR L b n P) 99) else (60, P)
def ilF (L b : Nat → Int32) (n : Nat) (s : Int32) (P : pT) : Int32 × pT := if ¬ s < 0 ∧ P.2.2.1 = 13 then (tnV (nextR L b n P) 9, tnP L b n (nextR L b n P) 9) else (0, P)
theorem skF_le {L b : Nat → Int32} {n : Nat} {P : pT} (h : P.1 ≤ n) : (skF L b n P).2.1 ≤ n := by
  unfold skF; split
  · exact tnP_le (nextR_le h).1
  · exact h
theorem ilF_le {L b : Nat → Int32} {n : Nat} {P : pT} {s : Int32} (h : P.1 ≤ n) : (ilF L b n s P).2.1 ≤ n := by
  unfold ilF; split
  · exact tnP_le (nextR_le h).1
  · exact h
def plN (R : Nat → Int32) (p j : Nat) (kd part ill skill : Int32) : Nat → Int32 := upd (upd (upd (upd (upd R (16 + 11 * p) kd) (16 + 11 * p + 1) part) (16 + 11 * p + 2) ill) (16 + 11 * p + 3 + j) skill) 6 (nI (p + 1))
/-- after the part is read -/
def plE (L b : Nat → Int32) (n : Nat) (kd : Int32) (R : Nat → Int32) (part : Int32) (P : pT) : Bool × (Nat → Int32) × pT :=
  (decide (¬ (skF L b n P).1 < 0 ∧ ¬ (ilF L b n (skF L b n P).1 (skF L b n P).2).1 < 0), plN R (cl (R 6)) (cl part) kd part (ilF L b n (skF L b n P).1 (skF L b n P).2).1 (skF L b n P).1, (ilF L b n (skF L b n P).1 (skF L b n P).2).2)
def plF (L b : Nat → Int32) (n : Nat) (kd : Int32) (R : Nat → Int32) (P : pT) : Bool × (Nat → Int32) × pT :=
  if R 6 = 8 then (false, R, P)
  else if (nextR L b n P).2.2.1 = 11 then
    (if tnV (nextR L b n (nextR L b n P)) 7 < 0 then (false, R, tnP L b n (nextR L b n (nextR L b n P)) 7)
     else plE L b n kd R (tnV (nextR L b n (nextR L b n P)) 7) (tnP L b n (nextR L b n (nextR L b n P)) 7))
  else (false, R, nextR L b n P)
set_option maxRecDepth 20000 in
set_option maxHeartbeats 1000000 in
theorem s_X12_takes (g : pG) {M : Nat → Nat → Int32} {R : Nat → Int32} {n : Nat} (hn : n ≤ 200) (en : M 54 9 = nI n) {P : pT} (he : P.1 ≤ n) (w : Int32) : MS g mX12_takes 5 0 0 [.ref 54, .int w] (Gs (tpP M R P)) (dI (bI (P.2.2.1 = w)) (Gs (tpP M R (tkP (M 62) (M 61) n P w)))) := by
  refine MS.of pn_X12 (Nat.le_of_ble_eq_true rfl) ?_
  refine r_aload_n dX12_takes_0 rfl rfl ?_
  refine r_getI dX12_takes_1 (ci := 12) (kf := 13) rfl (Nat.le_of_ble_eq_true rfl) (by decide) (by decide) rfl fl_X12_129 (Or.inl rfl) ?_
  rw [tp_t]
  refine r_iload_n dX12_takes_4 rfl rfl ?_
  refine r_icmp_ne (tgt := 12) dX12_takes_5 (by decide) (fun c_5 => ?_) (fun c_5 => ?_)
  · (try dsimp only [Gs_M] at c_5)
    refine r_iconst (v := 0) dX12_takes_12 (by decide) ?_
    refine r_istore_n dX12_takes_13 rfl (by decide) ?_
    refine r_iload_n dX12_takes_14 rfl rfl ?_
    refine r_if_eq (tgt := 22) dX12_takes_15 (by decide) (fun _ => ?_) (fun c => absurd c (by decide))
    refine r_iload_n dX12_takes_22 rfl rfl ?_
    refine r_zret dX12_takes_23 rfl rfl (Nat.le_refl _) ?_
    (try dsimp only [Gs_M])
    rw [show (tkP (M 62) (M 61) n P w) = P from if_neg c_5]
    exact ⟨congrArg (fun y => some (Value.int y)) (bI_f c_5).symm, rfl⟩
  · (try dsimp only [Gs_M] at c_5)
    refine r_iconst (v := 1) dX12_takes_8 (by decide) ?_
    refine r_goto (tgt := 13) dX12_takes_9 (by decide) ?_
    refine r_istore_n dX12_takes_13 rfl (by decide) ?_
    refine r_iload_n dX12_takes_14 rfl rfl ?_
    refine r_if_eq (tgt := 22) dX12_takes_15 (by decide) (fun c => absurd c (by decide)) (fun _ => ?_)
    refine r_aload_n dX12_takes_18 rfl rfl ?_
    refine r_callV_dV (ci := 12) dX12_takes_19 (s_next g hn en he) mf_X12_next mi_X12_next se_X12_X12_X12_next ml_X12_145 rfl rfl (Nat.le_of_ble_eq_true rfl) rfl (by decide) rfl (Nat.le_of_ble_eq_true rfl) ⟨(Nat.le_of_ble_eq_true rfl), (Nat.le_of_ble_eq_true rfl)⟩ ⟨(Nat.le_of_ble_eq_true rfl), (Nat.le_of_ble_eq_true rfl)⟩ ?_
    refine r_iload_n dX12_takes_22 rfl rfl ?_
    refine r_zret dX12_takes_23 rfl rfl (Nat.le_refl _) ?_
    (try dsimp only [Gs_M])
    rw [show (tkP (M 62) (M 61) n P w) = nextR (M 62) (M 61) n P from if_pos c_5]
    exact ⟨congrArg (fun y => some (Value.int y)) (bI_t c_5).symm, rfl⟩
set_option maxRecDepth 20000 in
set_option maxHeartbeats 1000000 in
theorem s_X12_takesNumber (g : pG) {M : Nat → Nat → Int32} {R : Nat → Int32} {n : Nat} (hn : n ≤ 200) (en : M 54 9 = nI n) {P : pT} (he : P.1 ≤ n) (m : Int32) : MS g mX12_takesNumber 5 0 0 [.ref 54, .int m] (Gs (tpP M R P)) (dI (tnV P m) (Gs (tpP M R (tnP (M 62) (M 61) n P m)))) := by
  refine MS.of pn_X12 (Nat.le_of_ble_eq_true rfl) ?_
  refine r_aload_n dX12_takesNumber_0 rfl rfl ?_
  refine r_getI dX12_takesNumber_1 (ci := 12) (kf := 13) rfl (Nat.le_of_ble_eq_true rfl) (by decide) (by decide) rfl fl_X12_129 (Or.inl rfl) ?_
  rw [tp_t]
  refine r_bipush (v := 100) dX12_takesNumber_4 (by decide) ?_
  refine r_icmp_ne (tgt := 24) dX12_takesNumber_6 (by decide) (fun c_6 => ?_) (fun c_6 => ?_)
  · (try dsimp only [Gs_M] at c_6)
    refine r_iconst (v := (-1)) dX12_takesNumber_24 (by decide) ?_
    refine r_istore_n dX12_takesNumber_25 rfl (by decide) ?_
    refine r_iload_n dX12_takesNumber_26 rfl rfl ?_
    refine r_if_lt (tgt := 34) dX12_takesNumber_27 (by decide) (fun _ => ?_) (fun c => absurd c (by decide))
    refine r_iload_n dX12_takesNumber_34 rfl rfl ?_
    refine r_iret dX12_takesNumber_35 rfl (Nat.le_refl _) ?_
    (try dsimp only [Gs_M])
    have ev : tnV P m = -1 := if_neg (fun z => c_6 z.1)
    rw [show (tnP (M 62) (M 61) n P m) = P from if_pos (by rw [ev]; decide), ev]
    exact ⟨rfl, rfl⟩
  · (try dsimp only [Gs_M] at c_6)
    refine r_aload_n dX12_takesNumber_9 rfl rfl ?_
    refine r_getI dX12_takesNumber_10 (ci := 12) (kf := 14) rfl (Nat.le_of_ble_eq_true rfl) (by decide) (by decide) rfl fl_X12_136 (Or.inl rfl) ?_
    rw [tp_v]
    refine r_iload_n dX12_takesNumber_13 rfl rfl ?_
    refine r_icmp_gt (tgt := 24) dX12_takesNumber_14 (by decide) (fun c_14 => ?_) (fun c_14 => ?_)
    · (try dsimp only [Gs_M] at c_14)
      refine r_iconst (v := (-1)) dX12_takesNumber_24 (by decide) ?_
      refine r_istore_n dX12_takesNumber_25 rfl (by decide) ?_
      refine r_iload_n dX12_takesNumber_26 rfl rfl ?_
      refine r_if_lt (tgt := 34) dX12_takesNumber_27 (by decide) (fun _ => ?_) (fun c => absurd c (by decide))
      refine r_iload_n dX12_takesNumber_34 rfl rfl ?_
      refine r_iret dX12_takesNumber_35 rfl (Nat.le_refl _) ?_
      (try dsimp only [Gs_M])
      have ev : tnV P m = -1 := if_neg (fun z => Int32.not_lt.mpr z.2 c_14)
      rw [show (tnP (M 62) (M 61) n P m) = P from if_pos (by rw [ev]; decide), ev]
      exact ⟨rfl, rfl⟩
    · (try dsimp only [Gs_M] at c_14)
      refine r_aload_n dX12_takesNumber_17 rfl rfl ?_
      refine r_getI dX12_takesNumber_18 (ci := 12) (kf := 14) rfl (Nat.le_of_ble_eq_true rfl) (by decide) (by decide) rfl fl_X12_136 (Or.inl rfl) ?_
      rw [tp_v]
      refine r_goto (tgt := 25) dX12_takesNumber_21 (by decide) ?_
      refine r_istore_n dX12_takesNumber_25 rfl (by decide) ?_
      refine r_iload_n dX12_takesNumber_26 rfl rfl ?_
      refine r_if_lt (tgt := 34) dX12_takesNumber_27 (by decide) (fun c_27 => ?_) (fun c_27 => ?_)
      · (try dsimp only [Gs_M] at c_27)
        refine r_iload_n dX12_takesNumber_34 rfl rfl ?_
        refine r_iret dX12_takesNumber_35 rfl (Nat.le_refl _) ?_
        (try dsimp only [Gs_M])
        have ev : tnV P m = P.2.2.2 := if_pos ⟨c_6, Int32.not_lt.mp c_14⟩
        rw [show (tnP (M 62) (M 61) n P m) = P from if_pos (by rw [ev]; exact c_27), ev]
        exact ⟨rfl, rfl⟩
      · (try dsimp only [Gs_M] at c_27)
        refine r_aload_n dX12_takesNumber_30 rfl rfl ?_
        refine r_callV_dV (ci := 12) dX12_takesNumber_31 (s_next g hn en he) mf_X12_next mi_X12_next se_X12_X12_X12_next ml_X12_145 rfl rfl (Nat.le_of_ble_eq_true rfl) rfl (by decide) rfl (Nat.le_of_ble_eq_true rfl) ⟨(Nat.le_of_ble_eq_true rfl), (Nat.le_of_ble_eq_true rfl)⟩ ⟨(Nat.le_of_ble_eq_true rfl), (Nat.le_of_ble_eq_true rfl)⟩ ?_
        refine r_iload_n dX12_takesNumber_34 rfl rfl ?_
        refine r_iret dX12_takesNumber_35 rfl (Nat.le_refl _) ?_
        (try dsimp only [Gs_M])
        have ev : tnV P m = P.2.2.2 := if_pos ⟨c_6, Int32.not_lt.mp c_14⟩
        rw [show (tnP (M 62) (M 61) n P m) = nextR (M 62) (M 61) n P from if_neg (by rw [ev]; exact c_27), ev]
        exact ⟨rfl, rfl⟩
theorem dT {M : Nat → Nat → Int32} {r : Bool × (Nat → Int32) × pT} {b : Bool} {R : Nat → Int32} {P : pT} {x : Int32} (e : r = (b, R, P)) (hx : x = bI (b = true)) : dI (bI (r.1 = true)) (Gs (tpP M r.2.1 r.2.2)) (some (.int x)) (Gs (tpP M R P)) := by
  subst e
  subst hx
  exact ⟨rfl, rfl⟩
theorem wgF_0 {L b : Nat → Int32} {n : Nat} {R : Nat → Int32} {P : pT} (h : tnV (nextR L b n P) 7 < 0) : wgF L b n R P = (false, R, tnP L b n (nextR L b n P) 7) := by unfold wgF; rw [if_pos h]
theorem wgF_n {L b : Nat → Int32} {n j : Nat} {R : Nat → Int32} {P : pT} (h : ¬ tnV (nextR L b n P) 7 < 0) (hj : cl (tnV (nextR L b n P) 7) = j) (h2 : tnV (tnP L b n (nextR L b n P) 7) 9 < 0) : wgF L b n R P = (false, upd R (8 + j) (tnV (tnP L b n (nextR L b n P) 7) 9), tnP L b n (tnP L b n (nextR L b n P) 7) 9) := by
  unfold wgF
  rw [if_neg h, hj, decide_eq_false (fun z => z h2)]
theorem wgF_y {L b : Nat → Int32} {n j : Nat} {R : Nat → Int32} {P : pT} (h : ¬ tnV (nextR L b n P) 7 < 0) (hj : cl (tnV (nextR L b n P) 7) = j) (h2 : ¬ tnV (tnP L b n (nextR L b n P) 7) 9 < 0) : wgF L b n R P = (true, upd R (8 + j) (tnV (tnP L b n (nextR L b n P) 7) 9), tnP L b n (tnP L b n (nextR L b n P) 7) 9) := by
  unfold wgF
  rw [if_neg h, hj, decide_eq_true h2]
set_option maxRecDepth 20000 in
set_option maxHeartbeats 1000000 in
theorem s_X12_readsWeight (g : pG) {M : Nat → Nat → Int32} {R : Nat → Int32} {n : Nat} (hn : n ≤ 200) (en : M 54 9 = nI n) {P : pT} (he : P.1 ≤ n) : MS g mX12_readsWeight 6 0 0 [.ref 54] (Gs (tpP M R P)) (dI (bI ((wgF (M 62) (M 61) n R P).1 = true)) (Gs (tpP M (wgF (M 62) (M 61) n R P).2.1 (wgF (M 62) (M 61) n R P).2.2))) := by
  refine MS.of pn_X12 (Nat.le_of_ble_eq_true rfl) ?_
  refine r_aload_n dX12_readsWeight_0 rfl rfl ?_
  refine r_callV_dV (ci := 12) dX12_readsWeight_1 (s_next g hn en he) mf_X12_next mi_X12_next se_X12_X12_X12_next ml_X12_145 rfl rfl (Nat.le_of_ble_eq_true rfl) rfl (by decide) rfl (Nat.le_of_ble_eq_true rfl) ⟨(Nat.le_of_ble_eq_true rfl), (Nat.le_of_ble_eq_true rfl)⟩ ⟨(Nat.le_of_ble_eq_true rfl), (Nat.le_of_ble_eq_true rfl)⟩ ?_
  refine r_aload_n dX12_readsWeight_4 rfl rfl ?_
  refine r_bipush (v := 7) dX12_readsWeight_5 (by decide) ?_
  refine r_callV_dI (ci := 12) dX12_readsWeight_7 (s_X12_takesNumber g hn en (nextR_le he).1 _) mf_X12_takesNumber mi_X12_takesNumber se_X12_X12_X12_takesNumber ml_X12_151 rfl rfl (Nat.le_of_ble_eq_true rfl) rfl (by decide) rfl (Nat.le_of_ble_eq_true rfl) ⟨(Nat.le_of_ble_eq_true rfl), (Nat.le_of_ble_eq_true rfl)⟩ ⟨(Nat.le_of_ble_eq_true rfl), (Nat.le_of_ble_eq_true rfl)⟩ ?_
  refine r_istore_n dX12_readsWeight_10 rfl (by decide) ?_
  refine r_iload_n dX12_readsWeight_11 rfl rfl ?_
  refine r_if_ge (tgt := 17) dX12_readsWeight_12 (by decide) (fun c_12 => ?_) (fun c_12 => ?_)
  · (try dsimp only [Gs_M] at c_12)
    obtain ⟨j, hj, ej⟩ := tn_rng 7 (by decide) (Int32.not_lt.mpr c_12)
    refine r_aload_n dX12_readsWeight_17 rfl rfl ?_
    refine r_bipush (v := 9) dX12_readsWeight_18 (by decide) ?_
    refine r_callV_dI (ci := 12) dX12_readsWeight_20 (s_X12_takesNumber g hn en (tnP_le (nextR_le he).1) _) mf_X12_takesNumber mi_X12_takesNumber se_X12_X12_X12_takesNumber ml_X12_151 rfl rfl (Nat.le_of_ble_eq_true rfl) rfl (by decide) rfl (Nat.le_of_ble_eq_true rfl) ⟨(Nat.le_of_ble_eq_true rfl), (Nat.le_of_ble_eq_true rfl)⟩ ⟨(Nat.le_of_ble_eq_true rfl), (Nat.le_of_ble_eq_true rfl)⟩ ?_
    refine r_istore_n dX12_readsWeight_23 rfl (by decide) ?_
    refine r_aload_n dX12_readsWeight_24 rfl rfl ?_
    refine r_getR (q := 58) dX12_readsWeight_25 (ci := 12) (kf := 3) rfl (Nat.le_of_ble_eq_true rfl) (by decide) (by decide) rfl fl_X12_19 (Or.inl rfl) rfl ?_
    refine r_bipush (v := 8) dX12_readsWeight_28 (by decide) ?_
    refine r_iload_n dX12_readsWeight_30 rfl rfl ?_
    rw [ej]
    refine r_iaddN (8) (j) dX12_readsWeight_31 ?_
    refine r_iload_n dX12_readsWeight_32 rfl rfl ?_
    refine r_iast (j := (8 + j)) dX12_readsWeight_33 rfl (Nat.le_of_ble_eq_true rfl) rfl (by omega) (by decide) ?_
    rw [tp_sr]
    refine r_iload_n dX12_readsWeight_34 rfl rfl ?_
    refine r_if_lt (tgt := 42) dX12_readsWeight_35 (by decide) (fun c_35 => ?_) (fun c_35 => ?_)
    · (try dsimp only [Gs_M] at c_35)
      refine r_iconst (v := 0) dX12_readsWeight_42 (by decide) ?_
      refine r_zret dX12_readsWeight_43 rfl rfl (Nat.le_refl _) ?_
      (try dsimp only [Gs_M])
      exact dT (wgF_n (Int32.not_lt.mpr c_12) (by rw [ej, cl_nI (by omega)]) c_35) (bI_f (by decide)).symm
    · (try dsimp only [Gs_M] at c_35)
      refine r_iconst (v := 1) dX12_readsWeight_38 (by decide) ?_
      refine r_goto (tgt := 43) dX12_readsWeight_39 (by decide) ?_
      refine r_zret dX12_readsWeight_43 rfl rfl (Nat.le_refl _) ?_
      (try dsimp only [Gs_M])
      exact dT (wgF_y (Int32.not_lt.mpr c_12) (by rw [ej, cl_nI (by omega)]) c_35) (bI_t rfl).symm
  · (try dsimp only [Gs_M] at c_12)
    refine r_iconst (v := 0) dX12_readsWeight_15 (by decide) ?_
    refine r_zret dX12_readsWeight_16 rfl rfl (Nat.le_refl _) ?_
    (try dsimp only [Gs_M])
    exact dT (wgF_0 (Int32.not_le.mp c_12)) (bI_f (by decide)).symm
