/-! ===== acts of the things ===== -/
def acC (M : Nat → Nat → Int32) (A : aT) : Nat → Nat → Int32 := fun q => if q = 46 then A.1 else if q = 45 then (fun f => if f = 1 then nI A.2.1 else if f = 2 then A.2.2 else M 45 f) else M q
theorem acC_c {M : Nat → Nat → Int32} {A : aT} : (Gs (acC M A)).2.2.2 45 1 = nI A.2.1 := rfl
theorem acC_p {M : Nat → Nat → Int32} {A : aT} : (Gs (acC M A)).2.2.2 45 2 = A.2.2 := rfl
theorem acC_b {M : Nat → Nat → Int32} {A : aT} {b : Int32} (h : A.2.1 < 30) : mSet (mSet (Gs (acC M A)) 45 1 (nI (A.2.1 + 1))) 46 A.2.1 b = Gs (acC M (stA b A)) := by
  rw [stA, if_pos h, if_pos h]
  refine congrArg (fun f => ((71, sh0, rf0, f) : pS)) ?_
  funext q f
  by_cases h1 : q = 46
  · subst h1; rfl
  · by_cases h2 : q = 45
    · subst h2
      show upd (acC M A 45) 1 (nI (A.2.1 + 1)) f = (if f = 1 then nI (A.2.1 + 1) else if f = 2 then A.2.2 else M 45 f)
      unfold upd
      by_cases h3 : f = 1
      · rw [if_pos h3, if_pos h3]
      · rw [if_neg h3, if_neg h3]
        show (if f = 1 then _ else if f = 2 then A.2.2 else M 45 f) = _
        rw [if_neg h3]
    · show (if q = 46 then _ else if q = 45 then _ else acC M A q) f = _
      rw [if_neg h1, if_neg h2]
      show (if q = 46 then _ else if q = 45 then _ else M q) f = (if q = 46 then _ else if q = 45 then _ else M q) f
      rw [if_neg h1, if_neg h2, if_neg h1, if_neg h2]
theorem acC_n {M : Nat → Nat → Int32} {A : aT} {b : Int32} (h : ¬ A.2.1 < 30) : Gs (acC M A) = Gs (acC M (stA b A)) := by
  rw [stA, if_neg h, if_neg h]
theorem acC_sp {M : Nat → Nat → Int32} {A : aT} {v : Int32} : mSet (Gs (acC M A)) 45 2 v = Gs (acC M (A.1, A.2.1, v)) := by
  refine congrArg (fun f => ((71, sh0, rf0, f) : pS)) ?_
  funext q f
  by_cases h2 : q = 45
  · subst h2
    show upd (acC M A 45) 2 v f = (if f = 1 then nI A.2.1 else if f = 2 then v else M 45 f)
    unfold upd
    by_cases h3 : f = 2
    · subst h3; rfl
    · rw [if_neg h3]
      show (if f = 1 then nI A.2.1 else if f = 2 then A.2.2 else M 45 f) = _
      rw [if_neg h3, if_neg h3]
  · show (if q = 45 then _ else acC M A q) f = _
    rw [if_neg h2]
    show (if q = 46 then _ else if q = 45 then _ else M q) f = (if q = 46 then _ else if q = 45 then _ else M q) f
    by_cases h1 : q = 46
    · rw [if_pos h1, if_pos h1]
    · rw [if_neg h1, if_neg h1, if_neg h2, if_neg h2]
theorem stA_p {b : Int32} {A : aT} : (stA b A).2.2 = A.2.2 := rfl
theorem bowK_p {ko k : Nat} {x : Int32} {A : aT} : (bowK ko k x A).2.2.2 = A.2.2 := by unfold bowK; split <;> rfl
theorem sng0_p {ko kd : Nat} {o1 x : Int32} {A : aT} : (sng0 ko kd o1 x A).2.2.2 = A.2.2 := bowK_p
theorem sngK_p {ko kd k : Nat} {o1 x : Int32} {A : aT} : (sngK ko kd o1 k x A).2.2.2 = A.2.2 := by
  unfold sngK
  split
  · exact sng0_p (o1 := o1) (x := x)
  · exact sng0_p (o1 := o1) (x := x)
  · exact bowK_p.trans (sng0_p (o1 := o1) (x := x))
  · exact sng0_p
theorem mov0_p {ko kd : Nat} {o1 x : Int32} {A : aT} : (mov0 ko kd o1 x A).2.2.2 = A.2.2 := sngK_p
theorem i_sub0 {a b : Int32} : a - b = 0 ↔ a = b := by
  constructor
  · intro z
    have := congrArg (· + b) z
    simpa [Int32.sub_add_cancel] using this
  · intro z; rw [z, Int32.sub_self]
theorem i_divm1 (x : Int32) : x / (-1) = -x := by
  apply Int32.toInt_inj.mp
  have h1 : (x / (-1)).toInt = (x.toInt.tdiv (-1)).bmod (2 ^ 32) := Int32.toInt_div x (-1)
  rw [h1, Int32.toInt_neg, Int.tdiv_neg, Int.tdiv_one]
theorem prt0_y {ko : Nat} {o1 x : Int32} {A : aT} (hp : A.2.2 = 0) (h : ¬ o1 = nI ko) : prt0 ko o1 x A = (x / (o1 - nI ko), stA 12 A) := by
  have e : ((stA 12 A).1, (stA 12 A).2.1, (0 : Int32)) = stA 12 A := by rw [← hp]; rfl
  rw [prt0, if_pos ⟨hp, fun z => h (i_sub0.mp z)⟩, e]
  by_cases c : o1 - nI ko = -1
  · rw [if_pos c, c, i_divm1]
  · rw [if_neg c]
theorem prt0_n {ko : Nat} {o1 x : Int32} {A : aT} (h : o1 = nI ko) : prt0 ko o1 x A = (0, (stA 12 A).1, (stA 12 A).2.1, 1) := by
  rw [prt0, if_neg (fun z => z.2 (i_sub0.mpr h))]
theorem dA {M : Nat → Nat → Int32} {r r' : Int32 × aT} (e : r = r') : dI r.1 (Gs (acC M r.2)) (some (.int r'.1)) (Gs (acC M r'.2)) := by
  subst e
  exact ⟨rfl, rfl⟩
theorem i_0sub (x : Int32) : 0 - x = -x := Int32.zero_sub x
set_option maxRecDepth 20000 in
set_option maxHeartbeats 1000000 in
theorem s_b3_0 (g : pG) {M : Nat → Nat → Int32} {A : aT} (hA : A.2.1 ≤ 30) (ko : Nat) (o1 : Int32) (hn : M 48 1 = nI ko) (ho : M 48 2 = o1) (x : Int32) : MS g mX3_bows 1 0 0 [.ref 48, .int x] (Gs (acC M A)) (dI (((x * 6 - nI ko, stA 10 A) : Int32 × aT)).1 (Gs (acC M (((x * 6 - nI ko, stA 10 A) : Int32 × aT)).2))) := by
  refine MS.of pn_X3 (Nat.le_of_ble_eq_true rfl) ?_
  have J : PW g mX3_bows (eN g (Gs (acC M A)).1 1 0 0 (dI (((x * 6 - nI ko, stA 10 A) : Int32 × aT)).1 (Gs (acC M (((x * 6 - nI ko, stA 10 A) : Int32 × aT)).2)))) 36 [some (.ref 48), some (.int x)] [] (Gs (acC M (stA 10 A))) 0 0 := by
    refine r_iload_n dX3_bows_36 rfl rfl ?_
    refine r_bipush (v := 6) dX3_bows_37 (by decide) ?_
    refine r_imul dX3_bows_39 ?_
    refine r_aload_n dX3_bows_40 rfl rfl ?_
    refine r_getI dX3_bows_41 (ci := 3) (kf := 1) rfl (Nat.le_of_ble_eq_true rfl) (by decide) (by decide) rfl fl_X3_13 (Or.inl rfl) ?_
    rw [show ∀ A : aT, (Gs (acC M A)).2.2.2 48 1 = nI ko from fun _ => hn]
    refine r_isub dX3_bows_44 ?_
    refine r_iret dX3_bows_45 rfl (Nat.le_refl _) ?_
    (try dsimp only [Gs_M])
    exact ⟨rfl, rfl⟩
  refine r_aload_n dX3_bows_0 rfl rfl ?_
  refine r_getR (q := 45) dX3_bows_1 (ci := 3) (kf := 0) rfl (Nat.le_of_ble_eq_true rfl) (by decide) (by decide) rfl fl_X3_7 (Or.inl rfl) rfl ?_
  refine r_getI dX3_bows_4 (ci := 9) (kf := 1) rfl (Nat.le_of_ble_eq_true rfl) (by decide) (by decide) rfl fl_X3_20 (Or.inl rfl) ?_
  rw [acC_c]
  refine r_bipush (v := 30) dX3_bows_7 (by decide) ?_
  refine r_icmp_geN (A.2.1) (30) (tgt := 36) dX3_bows_9 (by decide) (by omega) (by omega) (fun c_9 => ?_) (fun c_9 => ?_)
  · (try dsimp only [Gs_M] at c_9)
    rw [acC_n (b := 10) (by omega)]
    exact PW.subL J (by repeat' first | exact True.intro | refine And.intro rfl ?_)
  · (try dsimp only [Gs_M] at c_9)
    refine r_aload_n dX3_bows_12 rfl rfl ?_
    refine r_getR (q := 45) dX3_bows_13 (ci := 3) (kf := 0) rfl (Nat.le_of_ble_eq_true rfl) (by decide) (by decide) rfl fl_X3_7 (Or.inl rfl) rfl ?_
    refine r_getR (q := 46) dX3_bows_16 (ci := 9) (kf := 0) rfl (Nat.le_of_ble_eq_true rfl) (by decide) (by decide) rfl fl_X3_25 (Or.inl rfl) rfl ?_
    refine r_aload_n dX3_bows_19 rfl rfl ?_
    refine r_getR (q := 45) dX3_bows_20 (ci := 3) (kf := 0) rfl (Nat.le_of_ble_eq_true rfl) (by decide) (by decide) rfl fl_X3_7 (Or.inl rfl) rfl ?_
    refine r_dup dX3_bows_23 rfl ?_
    refine r_getI dX3_bows_24 (ci := 9) (kf := 1) rfl (Nat.le_of_ble_eq_true rfl) (by decide) (by decide) rfl fl_X3_20 (Or.inl rfl) ?_
    rw [acC_c]
    refine r_dup_x1 dX3_bows_27 rfl rfl ?_
    refine r_iconst (v := 1) dX3_bows_28 (by decide) ?_
    refine r_iaddN (A.2.1) (1) dX3_bows_29 ?_
    refine r_putI dX3_bows_30 (ci := 9) (kf := 1) rfl (Nat.le_of_ble_eq_true rfl) (by decide) (by decide) rfl fl_X3_20 (Or.inl rfl) rfl rfl rfl ?_
    refine r_bipush (v := 10) dX3_bows_33 (by decide) ?_
    refine r_iast (j := A.2.1) dX3_bows_35 rfl (Nat.le_of_ble_eq_true rfl) rfl (by omega) (by decide) ?_
    rw [acC_b (by omega)]
    exact PW.subL J (by repeat' first | exact True.intro | refine And.intro rfl ?_)
theorem s_bw_0 (g : pG) {M : Nat → Nat → Int32} {A : aT} (hA : A.2.1 ≤ 30) (ko : Nat) (o1 : Int32) (hn : M 48 1 = nI ko) (ho : M 48 2 = o1) (x : Int32) : MS g mX3_bows 1 0 0 [.ref 48, .int x] (Gs (acC M A)) (dI (bowK ko 0 x A).1 (Gs (acC M (bowK ko 0 x A).2))) := s_b3_0 g hA ko o1 hn ho x
set_option maxRecDepth 20000 in
set_option maxHeartbeats 1000000 in
theorem s_b3_1 (g : pG) {M : Nat → Nat → Int32} {A : aT} (hA : A.2.1 ≤ 30) (ko : Nat) (o1 : Int32) (hn : M 49 1 = nI ko) (ho : M 49 2 = o1) (x : Int32) : MS g mX3_bows 1 0 0 [.ref 49, .int x] (Gs (acC M A)) (dI (((x * 6 - nI ko, stA 10 A) : Int32 × aT)).1 (Gs (acC M (((x * 6 - nI ko, stA 10 A) : Int32 × aT)).2))) := by
  refine MS.of pn_X3 (Nat.le_of_ble_eq_true rfl) ?_
  have J : PW g mX3_bows (eN g (Gs (acC M A)).1 1 0 0 (dI (((x * 6 - nI ko, stA 10 A) : Int32 × aT)).1 (Gs (acC M (((x * 6 - nI ko, stA 10 A) : Int32 × aT)).2)))) 36 [some (.ref 49), some (.int x)] [] (Gs (acC M (stA 10 A))) 0 0 := by
    refine r_iload_n dX3_bows_36 rfl rfl ?_
    refine r_bipush (v := 6) dX3_bows_37 (by decide) ?_
    refine r_imul dX3_bows_39 ?_
    refine r_aload_n dX3_bows_40 rfl rfl ?_
    refine r_getI dX3_bows_41 (ci := 1) (kf := 1) rfl (Nat.le_of_ble_eq_true rfl) (by decide) (by decide) rfl fl_X3_13 (Or.inl rfl) ?_
    rw [show ∀ A : aT, (Gs (acC M A)).2.2.2 49 1 = nI ko from fun _ => hn]
    refine r_isub dX3_bows_44 ?_
    refine r_iret dX3_bows_45 rfl (Nat.le_refl _) ?_
    (try dsimp only [Gs_M])
    exact ⟨rfl, rfl⟩
  refine r_aload_n dX3_bows_0 rfl rfl ?_
  refine r_getR (q := 45) dX3_bows_1 (ci := 1) (kf := 0) rfl (Nat.le_of_ble_eq_true rfl) (by decide) (by decide) rfl fl_X3_7 (Or.inl rfl) rfl ?_
  refine r_getI dX3_bows_4 (ci := 9) (kf := 1) rfl (Nat.le_of_ble_eq_true rfl) (by decide) (by decide) rfl fl_X3_20 (Or.inl rfl) ?_
  rw [acC_c]
  refine r_bipush (v := 30) dX3_bows_7 (by decide) ?_
  refine r_icmp_geN (A.2.1) (30) (tgt := 36) dX3_bows_9 (by decide) (by omega) (by omega) (fun c_9 => ?_) (fun c_9 => ?_)
  · (try dsimp only [Gs_M] at c_9)
    rw [acC_n (b := 10) (by omega)]
    exact PW.subL J (by repeat' first | exact True.intro | refine And.intro rfl ?_)
  · (try dsimp only [Gs_M] at c_9)
    refine r_aload_n dX3_bows_12 rfl rfl ?_
    refine r_getR (q := 45) dX3_bows_13 (ci := 1) (kf := 0) rfl (Nat.le_of_ble_eq_true rfl) (by decide) (by decide) rfl fl_X3_7 (Or.inl rfl) rfl ?_
    refine r_getR (q := 46) dX3_bows_16 (ci := 9) (kf := 0) rfl (Nat.le_of_ble_eq_true rfl) (by decide) (by decide) rfl fl_X3_25 (Or.inl rfl) rfl ?_
    refine r_aload_n dX3_bows_19 rfl rfl ?_
    refine r_getR (q := 45) dX3_bows_20 (ci := 1) (kf := 0) rfl (Nat.le_of_ble_eq_true rfl) (by decide) (by decide) rfl fl_X3_7 (Or.inl rfl) rfl ?_
    refine r_dup dX3_bows_23 rfl ?_
    refine r_getI dX3_bows_24 (ci := 9) (kf := 1) rfl (Nat.le_of_ble_eq_true rfl) (by decide) (by decide) rfl fl_X3_20 (Or.inl rfl) ?_
    rw [acC_c]
    refine r_dup_x1 dX3_bows_27 rfl rfl ?_
    refine r_iconst (v := 1) dX3_bows_28 (by decide) ?_
    refine r_iaddN (A.2.1) (1) dX3_bows_29 ?_
    refine r_putI dX3_bows_30 (ci := 9) (kf := 1) rfl (Nat.le_of_ble_eq_true rfl) (by decide) (by decide) rfl fl_X3_20 (Or.inl rfl) rfl rfl rfl ?_
    refine r_bipush (v := 10) dX3_bows_33 (by decide) ?_
    refine r_iast (j := A.2.1) dX3_bows_35 rfl (Nat.le_of_ble_eq_true rfl) rfl (by omega) (by decide) ?_
    rw [acC_b (by omega)]
    exact PW.subL J (by repeat' first | exact True.intro | refine And.intro rfl ?_)
theorem s_bw_1 (g : pG) {M : Nat → Nat → Int32} {A : aT} (hA : A.2.1 ≤ 30) (ko : Nat) (o1 : Int32) (hn : M 49 1 = nI ko) (ho : M 49 2 = o1) (x : Int32) : MS g mX3_bows 1 0 0 [.ref 49, .int x] (Gs (acC M A)) (dI (bowK ko 1 x A).1 (Gs (acC M (bowK ko 1 x A).2))) := s_b3_1 g hA ko o1 hn ho x
set_option maxRecDepth 20000 in
set_option maxHeartbeats 1000000 in
theorem s_b3_2 (g : pG) {M : Nat → Nat → Int32} {A : aT} (hA : A.2.1 ≤ 30) (ko : Nat) (o1 : Int32) (hn : M 50 1 = nI ko) (ho : M 50 2 = o1) (x : Int32) : MS g mX3_bows 1 0 0 [.ref 50, .int x] (Gs (acC M A)) (dI (((x * 6 - nI ko, stA 10 A) : Int32 × aT)).1 (Gs (acC M (((x * 6 - nI ko, stA 10 A) : Int32 × aT)).2))) := by
  refine MS.of pn_X3 (Nat.le_of_ble_eq_true rfl) ?_
  have J : PW g mX3_bows (eN g (Gs (acC M A)).1 1 0 0 (dI (((x * 6 - nI ko, stA 10 A) : Int32 × aT)).1 (Gs (acC M (((x * 6 - nI ko, stA 10 A) : Int32 × aT)).2)))) 36 [some (.ref 50), some (.int x)] [] (Gs (acC M (stA 10 A))) 0 0 := by
    refine r_iload_n dX3_bows_36 rfl rfl ?_
    refine r_bipush (v := 6) dX3_bows_37 (by decide) ?_
    refine r_imul dX3_bows_39 ?_
    refine r_aload_n dX3_bows_40 rfl rfl ?_
    refine r_getI dX3_bows_41 (ci := 2) (kf := 1) rfl (Nat.le_of_ble_eq_true rfl) (by decide) (by decide) rfl fl_X3_13 (Or.inl rfl) ?_
    rw [show ∀ A : aT, (Gs (acC M A)).2.2.2 50 1 = nI ko from fun _ => hn]
    refine r_isub dX3_bows_44 ?_
    refine r_iret dX3_bows_45 rfl (Nat.le_refl _) ?_
    (try dsimp only [Gs_M])
    exact ⟨rfl, rfl⟩
  refine r_aload_n dX3_bows_0 rfl rfl ?_
  refine r_getR (q := 45) dX3_bows_1 (ci := 2) (kf := 0) rfl (Nat.le_of_ble_eq_true rfl) (by decide) (by decide) rfl fl_X3_7 (Or.inl rfl) rfl ?_
  refine r_getI dX3_bows_4 (ci := 9) (kf := 1) rfl (Nat.le_of_ble_eq_true rfl) (by decide) (by decide) rfl fl_X3_20 (Or.inl rfl) ?_
  rw [acC_c]
  refine r_bipush (v := 30) dX3_bows_7 (by decide) ?_
  refine r_icmp_geN (A.2.1) (30) (tgt := 36) dX3_bows_9 (by decide) (by omega) (by omega) (fun c_9 => ?_) (fun c_9 => ?_)
  · (try dsimp only [Gs_M] at c_9)
    rw [acC_n (b := 10) (by omega)]
    exact PW.subL J (by repeat' first | exact True.intro | refine And.intro rfl ?_)
  · (try dsimp only [Gs_M] at c_9)
    refine r_aload_n dX3_bows_12 rfl rfl ?_
    refine r_getR (q := 45) dX3_bows_13 (ci := 2) (kf := 0) rfl (Nat.le_of_ble_eq_true rfl) (by decide) (by decide) rfl fl_X3_7 (Or.inl rfl) rfl ?_
    refine r_getR (q := 46) dX3_bows_16 (ci := 9) (kf := 0) rfl (Nat.le_of_ble_eq_true rfl) (by decide) (by decide) rfl fl_X3_25 (Or.inl rfl) rfl ?_
    refine r_aload_n dX3_bows_19 rfl rfl ?_
    refine r_getR (q := 45) dX3_bows_20 (ci := 2) (kf := 0) rfl (Nat.le_of_ble_eq_true rfl) (by decide) (by decide) rfl fl_X3_7 (Or.inl rfl) rfl ?_
    refine r_dup dX3_bows_23 rfl ?_
    refine r_getI dX3_bows_24 (ci := 9) (kf := 1) rfl (Nat.le_of_ble_eq_true rfl) (by decide) (by decide) rfl fl_X3_20 (Or.inl rfl) ?_
    rw [acC_c]
    refine r_dup_x1 dX3_bows_27 rfl rfl ?_
    refine r_iconst (v := 1) dX3_bows_28 (by decide) ?_
    refine r_iaddN (A.2.1) (1) dX3_bows_29 ?_
    refine r_putI dX3_bows_30 (ci := 9) (kf := 1) rfl (Nat.le_of_ble_eq_true rfl) (by decide) (by decide) rfl fl_X3_20 (Or.inl rfl) rfl rfl rfl ?_
    refine r_bipush (v := 10) dX3_bows_33 (by decide) ?_
    refine r_iast (j := A.2.1) dX3_bows_35 rfl (Nat.le_of_ble_eq_true rfl) rfl (by omega) (by decide) ?_
    rw [acC_b (by omega)]
    exact PW.subL J (by repeat' first | exact True.intro | refine And.intro rfl ?_)
set_option maxRecDepth 20000 in
set_option maxHeartbeats 1000000 in
theorem s_bw_2 (g : pG) {M : Nat → Nat → Int32} {A : aT} (hA : A.2.1 ≤ 30) (ko : Nat) (o1 : Int32) (hn : M 50 1 = nI ko) (ho : M 50 2 = o1) (x : Int32) : MS g mX2_bows 2 0 0 [.ref 50, .int x] (Gs (acC M A)) (dI (bowK ko 2 x A).1 (Gs (acC M (bowK ko 2 x A).2))) := by
  refine MS.of pn_X2 (Nat.le_of_ble_eq_true rfl) ?_
  have J : PW g mX2_bows (eN g (Gs (acC M A)).1 2 0 0 (dI (bowK ko 2 x A).1 (Gs (acC M (bowK ko 2 x A).2)))) 36 [some (.ref 50), some (.int x)] [] (Gs (acC M (stA 30 A))) 0 0 := by
    refine r_iconst (v := 0) dX2_bows_36 (by decide) ?_
    refine r_aload_n dX2_bows_37 rfl rfl ?_
    refine r_iload_n dX2_bows_38 rfl rfl ?_
    refine r_callSU_dI (ci := 2) dX2_bows_39 (s_b3_2 g (stA_le hA) ko o1 hn ho _) mf_X3_bows mi_X3_bows ml_X2_23 sm_X3_X3_bows su_X2_X3 (by decide) rfl rfl (Nat.le_of_ble_eq_true rfl) rfl (by decide) (Nat.le_of_ble_eq_true rfl) ⟨(Nat.le_of_ble_eq_true rfl), (Nat.le_of_ble_eq_true rfl)⟩ ⟨(Nat.le_of_ble_eq_true rfl), (Nat.le_of_ble_eq_true rfl)⟩ ?_
    refine r_isub dX2_bows_42 ?_
    rw [i_0sub]
    refine r_iret dX2_bows_43 rfl (Nat.le_refl _) ?_
    (try dsimp only [Gs_M])
    exact ⟨rfl, rfl⟩
  refine r_aload_n dX2_bows_0 rfl rfl ?_
  refine r_getR (q := 45) dX2_bows_1 (ci := 2) (kf := 0) rfl (Nat.le_of_ble_eq_true rfl) (by decide) (by decide) rfl fl_X2_7 (Or.inr sf_X2_log) rfl ?_
  refine r_getI dX2_bows_4 (ci := 9) (kf := 1) rfl (Nat.le_of_ble_eq_true rfl) (by decide) (by decide) rfl fl_X2_13 (Or.inl rfl) ?_
  rw [acC_c]
  refine r_bipush (v := 30) dX2_bows_7 (by decide) ?_
  refine r_icmp_geN (A.2.1) (30) (tgt := 36) dX2_bows_9 (by decide) (by omega) (by omega) (fun c_9 => ?_) (fun c_9 => ?_)
  · (try dsimp only [Gs_M] at c_9)
    rw [acC_n (b := 30) (by omega)]
    exact PW.subL J (by repeat' first | exact True.intro | refine And.intro rfl ?_)
  · (try dsimp only [Gs_M] at c_9)
    refine r_aload_n dX2_bows_12 rfl rfl ?_
    refine r_getR (q := 45) dX2_bows_13 (ci := 2) (kf := 0) rfl (Nat.le_of_ble_eq_true rfl) (by decide) (by decide) rfl fl_X2_7 (Or.inr sf_X2_log) rfl ?_
    refine r_getR (q := 46) dX2_bows_16 (ci := 9) (kf := 0) rfl (Nat.le_of_ble_eq_true rfl) (by decide) (by decide) rfl fl_X2_19 (Or.inl rfl) rfl ?_
    refine r_aload_n dX2_bows_19 rfl rfl ?_
    refine r_getR (q := 45) dX2_bows_20 (ci := 2) (kf := 0) rfl (Nat.le_of_ble_eq_true rfl) (by decide) (by decide) rfl fl_X2_7 (Or.inr sf_X2_log) rfl ?_
    refine r_dup dX2_bows_23 rfl ?_
    refine r_getI dX2_bows_24 (ci := 9) (kf := 1) rfl (Nat.le_of_ble_eq_true rfl) (by decide) (by decide) rfl fl_X2_13 (Or.inl rfl) ?_
    rw [acC_c]
    refine r_dup_x1 dX2_bows_27 rfl rfl ?_
    refine r_iconst (v := 1) dX2_bows_28 (by decide) ?_
    refine r_iaddN (A.2.1) (1) dX2_bows_29 ?_
    refine r_putI dX2_bows_30 (ci := 9) (kf := 1) rfl (Nat.le_of_ble_eq_true rfl) (by decide) (by decide) rfl fl_X2_13 (Or.inl rfl) rfl rfl rfl ?_
    refine r_bipush (v := 30) dX2_bows_33 (by decide) ?_
    refine r_iast (j := A.2.1) dX2_bows_35 rfl (Nat.le_of_ble_eq_true rfl) rfl (by omega) (by decide) ?_
    rw [acC_b (by omega)]
    exact PW.subL J (by repeat' first | exact True.intro | refine And.intro rfl ?_)
set_option maxRecDepth 20000 in
set_option maxHeartbeats 1000000 in
theorem s_b3_3 (g : pG) {M : Nat → Nat → Int32} {A : aT} (hA : A.2.1 ≤ 30) (ko : Nat) (o1 : Int32) (hn : M 51 1 = nI ko) (ho : M 51 2 = o1) (x : Int32) : MS g mX3_bows 1 0 0 [.ref 51, .int x] (Gs (acC M A)) (dI (((x * 6 - nI ko, stA 10 A) : Int32 × aT)).1 (Gs (acC M (((x * 6 - nI ko, stA 10 A) : Int32 × aT)).2))) := by
  refine MS.of pn_X3 (Nat.le_of_ble_eq_true rfl) ?_
  have J : PW g mX3_bows (eN g (Gs (acC M A)).1 1 0 0 (dI (((x * 6 - nI ko, stA 10 A) : Int32 × aT)).1 (Gs (acC M (((x * 6 - nI ko, stA 10 A) : Int32 × aT)).2)))) 36 [some (.ref 51), some (.int x)] [] (Gs (acC M (stA 10 A))) 0 0 := by
    refine r_iload_n dX3_bows_36 rfl rfl ?_
    refine r_bipush (v := 6) dX3_bows_37 (by decide) ?_
    refine r_imul dX3_bows_39 ?_
    refine r_aload_n dX3_bows_40 rfl rfl ?_
    refine r_getI dX3_bows_41 (ci := 5) (kf := 1) rfl (Nat.le_of_ble_eq_true rfl) (by decide) (by decide) rfl fl_X3_13 (Or.inl rfl) ?_
    rw [show ∀ A : aT, (Gs (acC M A)).2.2.2 51 1 = nI ko from fun _ => hn]
    refine r_isub dX3_bows_44 ?_
    refine r_iret dX3_bows_45 rfl (Nat.le_refl _) ?_
    (try dsimp only [Gs_M])
    exact ⟨rfl, rfl⟩
  refine r_aload_n dX3_bows_0 rfl rfl ?_
  refine r_getR (q := 45) dX3_bows_1 (ci := 5) (kf := 0) rfl (Nat.le_of_ble_eq_true rfl) (by decide) (by decide) rfl fl_X3_7 (Or.inl rfl) rfl ?_
  refine r_getI dX3_bows_4 (ci := 9) (kf := 1) rfl (Nat.le_of_ble_eq_true rfl) (by decide) (by decide) rfl fl_X3_20 (Or.inl rfl) ?_
  rw [acC_c]
  refine r_bipush (v := 30) dX3_bows_7 (by decide) ?_
  refine r_icmp_geN (A.2.1) (30) (tgt := 36) dX3_bows_9 (by decide) (by omega) (by omega) (fun c_9 => ?_) (fun c_9 => ?_)
  · (try dsimp only [Gs_M] at c_9)
    rw [acC_n (b := 10) (by omega)]
    exact PW.subL J (by repeat' first | exact True.intro | refine And.intro rfl ?_)
  · (try dsimp only [Gs_M] at c_9)
    refine r_aload_n dX3_bows_12 rfl rfl ?_
    refine r_getR (q := 45) dX3_bows_13 (ci := 5) (kf := 0) rfl (Nat.le_of_ble_eq_true rfl) (by decide) (by decide) rfl fl_X3_7 (Or.inl rfl) rfl ?_
    refine r_getR (q := 46) dX3_bows_16 (ci := 9) (kf := 0) rfl (Nat.le_of_ble_eq_true rfl) (by decide) (by decide) rfl fl_X3_25 (Or.inl rfl) rfl ?_
    refine r_aload_n dX3_bows_19 rfl rfl ?_
    refine r_getR (q := 45) dX3_bows_20 (ci := 5) (kf := 0) rfl (Nat.le_of_ble_eq_true rfl) (by decide) (by decide) rfl fl_X3_7 (Or.inl rfl) rfl ?_
    refine r_dup dX3_bows_23 rfl ?_
    refine r_getI dX3_bows_24 (ci := 9) (kf := 1) rfl (Nat.le_of_ble_eq_true rfl) (by decide) (by decide) rfl fl_X3_20 (Or.inl rfl) ?_
    rw [acC_c]
    refine r_dup_x1 dX3_bows_27 rfl rfl ?_
    refine r_iconst (v := 1) dX3_bows_28 (by decide) ?_
    refine r_iaddN (A.2.1) (1) dX3_bows_29 ?_
    refine r_putI dX3_bows_30 (ci := 9) (kf := 1) rfl (Nat.le_of_ble_eq_true rfl) (by decide) (by decide) rfl fl_X3_20 (Or.inl rfl) rfl rfl rfl ?_
    refine r_bipush (v := 10) dX3_bows_33 (by decide) ?_
    refine r_iast (j := A.2.1) dX3_bows_35 rfl (Nat.le_of_ble_eq_true rfl) rfl (by omega) (by decide) ?_
    rw [acC_b (by omega)]
    exact PW.subL J (by repeat' first | exact True.intro | refine And.intro rfl ?_)
set_option maxRecDepth 20000 in
set_option maxHeartbeats 1000000 in
theorem s_bw_3 (g : pG) {M : Nat → Nat → Int32} {A : aT} (hA : A.2.1 ≤ 30) (ko : Nat) (o1 : Int32) (hn : M 51 1 = nI ko) (ho : M 51 2 = o1) (x : Int32) : MS g mX5_bows 2 0 0 [.ref 51, .int x] (Gs (acC M A)) (dI (bowK ko 3 x A).1 (Gs (acC M (bowK ko 3 x A).2))) := by
  refine MS.of pn_X5 (Nat.le_of_ble_eq_true rfl) ?_
  have J : PW g mX5_bows (eN g (Gs (acC M A)).1 2 0 0 (dI (bowK ko 3 x A).1 (Gs (acC M (bowK ko 3 x A).2)))) 36 [some (.ref 51), some (.int x)] [] (Gs (acC M (stA 51 A))) 0 0 := by
    refine r_aload_n dX5_bows_36 rfl rfl ?_
    refine r_iload_n dX5_bows_37 rfl rfl ?_
    refine r_callSUo_dI (ci := 5) dX5_bows_38 (s_b3_3 g (stA_le hA) ko o1 hn ho _) mf_X3_bows mi_X3_bows ml_X5_30 sm_X1_X3_bows su_X5_X1 su_X1_X3 rfl rfl (by decide) rfl rfl (Nat.le_of_ble_eq_true rfl) rfl (by decide) (Nat.le_of_ble_eq_true rfl) ⟨(Nat.le_of_ble_eq_true rfl), (Nat.le_of_ble_eq_true rfl)⟩ ⟨(Nat.le_of_ble_eq_true rfl), (Nat.le_of_ble_eq_true rfl)⟩ ?_
    refine r_iconst (v := 2) dX5_bows_41 (by decide) ?_
    refine r_imul dX5_bows_42 ?_
    refine r_iret dX5_bows_43 rfl (Nat.le_refl _) ?_
    (try dsimp only [Gs_M])
    exact ⟨rfl, rfl⟩
  refine r_aload_n dX5_bows_0 rfl rfl ?_
  refine r_getR (q := 45) dX5_bows_1 (ci := 5) (kf := 0) rfl (Nat.le_of_ble_eq_true rfl) (by decide) (by decide) rfl fl_X5_7 (Or.inr sf_X5_log) rfl ?_
  refine r_getI dX5_bows_4 (ci := 9) (kf := 1) rfl (Nat.le_of_ble_eq_true rfl) (by decide) (by decide) rfl fl_X5_13 (Or.inl rfl) ?_
  rw [acC_c]
  refine r_bipush (v := 30) dX5_bows_7 (by decide) ?_
  refine r_icmp_geN (A.2.1) (30) (tgt := 36) dX5_bows_9 (by decide) (by omega) (by omega) (fun c_9 => ?_) (fun c_9 => ?_)
  · (try dsimp only [Gs_M] at c_9)
    rw [acC_n (b := 51) (by omega)]
    exact PW.subL J (by repeat' first | exact True.intro | refine And.intro rfl ?_)
  · (try dsimp only [Gs_M] at c_9)
    refine r_aload_n dX5_bows_12 rfl rfl ?_
    refine r_getR (q := 45) dX5_bows_13 (ci := 5) (kf := 0) rfl (Nat.le_of_ble_eq_true rfl) (by decide) (by decide) rfl fl_X5_7 (Or.inr sf_X5_log) rfl ?_
    refine r_getR (q := 46) dX5_bows_16 (ci := 9) (kf := 0) rfl (Nat.le_of_ble_eq_true rfl) (by decide) (by decide) rfl fl_X5_19 (Or.inl rfl) rfl ?_
    refine r_aload_n dX5_bows_19 rfl rfl ?_
    refine r_getR (q := 45) dX5_bows_20 (ci := 5) (kf := 0) rfl (Nat.le_of_ble_eq_true rfl) (by decide) (by decide) rfl fl_X5_7 (Or.inr sf_X5_log) rfl ?_
    refine r_dup dX5_bows_23 rfl ?_
    refine r_getI dX5_bows_24 (ci := 9) (kf := 1) rfl (Nat.le_of_ble_eq_true rfl) (by decide) (by decide) rfl fl_X5_13 (Or.inl rfl) ?_
    rw [acC_c]
    refine r_dup_x1 dX5_bows_27 rfl rfl ?_
    refine r_iconst (v := 1) dX5_bows_28 (by decide) ?_
    refine r_iaddN (A.2.1) (1) dX5_bows_29 ?_
    refine r_putI dX5_bows_30 (ci := 9) (kf := 1) rfl (Nat.le_of_ble_eq_true rfl) (by decide) (by decide) rfl fl_X5_13 (Or.inl rfl) rfl rfl rfl ?_
    refine r_bipush (v := 51) dX5_bows_33 (by decide) ?_
    refine r_iast (j := A.2.1) dX5_bows_35 rfl (Nat.le_of_ble_eq_true rfl) rfl (by omega) (by decide) ?_
    rw [acC_b (by omega)]
    exact PW.subL J (by repeat' first | exact True.intro | refine And.intro rfl ?_)
set_option maxRecDepth 20000 in
set_option maxHeartbeats 1000000 in
theorem s_b3_4 (g : pG) {M : Nat → Nat → Int32} {A : aT} (hA : A.2.1 ≤ 30) (ko : Nat) (o1 : Int32) (hn : M 52 1 = nI ko) (ho : M 52 2 = o1) (x : Int32) : MS g mX3_bows 1 0 0 [.ref 52, .int x] (Gs (acC M A)) (dI (((x * 6 - nI ko, stA 10 A) : Int32 × aT)).1 (Gs (acC M (((x * 6 - nI ko, stA 10 A) : Int32 × aT)).2))) := by
  refine MS.of pn_X3 (Nat.le_of_ble_eq_true rfl) ?_
  have J : PW g mX3_bows (eN g (Gs (acC M A)).1 1 0 0 (dI (((x * 6 - nI ko, stA 10 A) : Int32 × aT)).1 (Gs (acC M (((x * 6 - nI ko, stA 10 A) : Int32 × aT)).2)))) 36 [some (.ref 52), some (.int x)] [] (Gs (acC M (stA 10 A))) 0 0 := by
    refine r_iload_n dX3_bows_36 rfl rfl ?_
    refine r_bipush (v := 6) dX3_bows_37 (by decide) ?_
    refine r_imul dX3_bows_39 ?_
    refine r_aload_n dX3_bows_40 rfl rfl ?_
    refine r_getI dX3_bows_41 (ci := 4) (kf := 1) rfl (Nat.le_of_ble_eq_true rfl) (by decide) (by decide) rfl fl_X3_13 (Or.inl rfl) ?_
    rw [show ∀ A : aT, (Gs (acC M A)).2.2.2 52 1 = nI ko from fun _ => hn]
    refine r_isub dX3_bows_44 ?_
    refine r_iret dX3_bows_45 rfl (Nat.le_refl _) ?_
    (try dsimp only [Gs_M])
    exact ⟨rfl, rfl⟩
  refine r_aload_n dX3_bows_0 rfl rfl ?_
  refine r_getR (q := 45) dX3_bows_1 (ci := 4) (kf := 0) rfl (Nat.le_of_ble_eq_true rfl) (by decide) (by decide) rfl fl_X3_7 (Or.inl rfl) rfl ?_
  refine r_getI dX3_bows_4 (ci := 9) (kf := 1) rfl (Nat.le_of_ble_eq_true rfl) (by decide) (by decide) rfl fl_X3_20 (Or.inl rfl) ?_
  rw [acC_c]
  refine r_bipush (v := 30) dX3_bows_7 (by decide) ?_
  refine r_icmp_geN (A.2.1) (30) (tgt := 36) dX3_bows_9 (by decide) (by omega) (by omega) (fun c_9 => ?_) (fun c_9 => ?_)
  · (try dsimp only [Gs_M] at c_9)
    rw [acC_n (b := 10) (by omega)]
    exact PW.subL J (by repeat' first | exact True.intro | refine And.intro rfl ?_)
  · (try dsimp only [Gs_M] at c_9)
    refine r_aload_n dX3_bows_12 rfl rfl ?_
    refine r_getR (q := 45) dX3_bows_13 (ci := 4) (kf := 0) rfl (Nat.le_of_ble_eq_true rfl) (by decide) (by decide) rfl fl_X3_7 (Or.inl rfl) rfl ?_
    refine r_getR (q := 46) dX3_bows_16 (ci := 9) (kf := 0) rfl (Nat.le_of_ble_eq_true rfl) (by decide) (by decide) rfl fl_X3_25 (Or.inl rfl) rfl ?_
    refine r_aload_n dX3_bows_19 rfl rfl ?_
    refine r_getR (q := 45) dX3_bows_20 (ci := 4) (kf := 0) rfl (Nat.le_of_ble_eq_true rfl) (by decide) (by decide) rfl fl_X3_7 (Or.inl rfl) rfl ?_
    refine r_dup dX3_bows_23 rfl ?_
    refine r_getI dX3_bows_24 (ci := 9) (kf := 1) rfl (Nat.le_of_ble_eq_true rfl) (by decide) (by decide) rfl fl_X3_20 (Or.inl rfl) ?_
    rw [acC_c]
    refine r_dup_x1 dX3_bows_27 rfl rfl ?_
    refine r_iconst (v := 1) dX3_bows_28 (by decide) ?_
    refine r_iaddN (A.2.1) (1) dX3_bows_29 ?_
    refine r_putI dX3_bows_30 (ci := 9) (kf := 1) rfl (Nat.le_of_ble_eq_true rfl) (by decide) (by decide) rfl fl_X3_20 (Or.inl rfl) rfl rfl rfl ?_
    refine r_bipush (v := 10) dX3_bows_33 (by decide) ?_
    refine r_iast (j := A.2.1) dX3_bows_35 rfl (Nat.le_of_ble_eq_true rfl) rfl (by omega) (by decide) ?_
    rw [acC_b (by omega)]
    exact PW.subL J (by repeat' first | exact True.intro | refine And.intro rfl ?_)
set_option maxRecDepth 20000 in
set_option maxHeartbeats 1000000 in
theorem s_b2_4 (g : pG) {M : Nat → Nat → Int32} {A : aT} (hA : A.2.1 ≤ 30) (ko : Nat) (o1 : Int32) (hn : M 52 1 = nI ko) (ho : M 52 2 = o1) (x : Int32) : MS g mX2_bows 2 0 0 [.ref 52, .int x] (Gs (acC M A)) (dI (((-(x * 6 - nI ko), stA 10 (stA 30 A)) : Int32 × aT)).1 (Gs (acC M (((-(x * 6 - nI ko), stA 10 (stA 30 A)) : Int32 × aT)).2))) := by
  refine MS.of pn_X2 (Nat.le_of_ble_eq_true rfl) ?_
  have J : PW g mX2_bows (eN g (Gs (acC M A)).1 2 0 0 (dI (((-(x * 6 - nI ko), stA 10 (stA 30 A)) : Int32 × aT)).1 (Gs (acC M (((-(x * 6 - nI ko), stA 10 (stA 30 A)) : Int32 × aT)).2)))) 36 [some (.ref 52), some (.int x)] [] (Gs (acC M (stA 30 A))) 0 0 := by
    refine r_iconst (v := 0) dX2_bows_36 (by decide) ?_
    refine r_aload_n dX2_bows_37 rfl rfl ?_
    refine r_iload_n dX2_bows_38 rfl rfl ?_
    refine r_callSU_dI (ci := 4) dX2_bows_39 (s_b3_4 g (stA_le hA) ko o1 hn ho _) mf_X3_bows mi_X3_bows ml_X2_23 sm_X3_X3_bows su_X2_X3 (by decide) rfl rfl (Nat.le_of_ble_eq_true rfl) rfl (by decide) (Nat.le_of_ble_eq_true rfl) ⟨(Nat.le_of_ble_eq_true rfl), (Nat.le_of_ble_eq_true rfl)⟩ ⟨(Nat.le_of_ble_eq_true rfl), (Nat.le_of_ble_eq_true rfl)⟩ ?_
    refine r_isub dX2_bows_42 ?_
    rw [i_0sub]
    refine r_iret dX2_bows_43 rfl (Nat.le_refl _) ?_
    (try dsimp only [Gs_M])
    exact ⟨rfl, rfl⟩
  refine r_aload_n dX2_bows_0 rfl rfl ?_
  refine r_getR (q := 45) dX2_bows_1 (ci := 4) (kf := 0) rfl (Nat.le_of_ble_eq_true rfl) (by decide) (by decide) rfl fl_X2_7 (Or.inr sf_X2_log) rfl ?_
  refine r_getI dX2_bows_4 (ci := 9) (kf := 1) rfl (Nat.le_of_ble_eq_true rfl) (by decide) (by decide) rfl fl_X2_13 (Or.inl rfl) ?_
  rw [acC_c]
  refine r_bipush (v := 30) dX2_bows_7 (by decide) ?_
  refine r_icmp_geN (A.2.1) (30) (tgt := 36) dX2_bows_9 (by decide) (by omega) (by omega) (fun c_9 => ?_) (fun c_9 => ?_)
  · (try dsimp only [Gs_M] at c_9)
    rw [acC_n (b := 30) (by omega)]
    exact PW.subL J (by repeat' first | exact True.intro | refine And.intro rfl ?_)
  · (try dsimp only [Gs_M] at c_9)
    refine r_aload_n dX2_bows_12 rfl rfl ?_
    refine r_getR (q := 45) dX2_bows_13 (ci := 4) (kf := 0) rfl (Nat.le_of_ble_eq_true rfl) (by decide) (by decide) rfl fl_X2_7 (Or.inr sf_X2_log) rfl ?_
    refine r_getR (q := 46) dX2_bows_16 (ci := 9) (kf := 0) rfl (Nat.le_of_ble_eq_true rfl) (by decide) (by decide) rfl fl_X2_19 (Or.inl rfl) rfl ?_
    refine r_aload_n dX2_bows_19 rfl rfl ?_
    refine r_getR (q := 45) dX2_bows_20 (ci := 4) (kf := 0) rfl (Nat.le_of_ble_eq_true rfl) (by decide) (by decide) rfl fl_X2_7 (Or.inr sf_X2_log) rfl ?_
    refine r_dup dX2_bows_23 rfl ?_
    refine r_getI dX2_bows_24 (ci := 9) (kf := 1) rfl (Nat.le_of_ble_eq_true rfl) (by decide) (by decide) rfl fl_X2_13 (Or.inl rfl) ?_
    rw [acC_c]
    refine r_dup_x1 dX2_bows_27 rfl rfl ?_
    refine r_iconst (v := 1) dX2_bows_28 (by decide) ?_
    refine r_iaddN (A.2.1) (1) dX2_bows_29 ?_
    refine r_putI dX2_bows_30 (ci := 9) (kf := 1) rfl (Nat.le_of_ble_eq_true rfl) (by decide) (by decide) rfl fl_X2_13 (Or.inl rfl) rfl rfl rfl ?_
    refine r_bipush (v := 30) dX2_bows_33 (by decide) ?_
    refine r_iast (j := A.2.1) dX2_bows_35 rfl (Nat.le_of_ble_eq_true rfl) rfl (by omega) (by decide) ?_
    rw [acC_b (by omega)]
    exact PW.subL J (by repeat' first | exact True.intro | refine And.intro rfl ?_)
set_option maxRecDepth 20000 in
set_option maxHeartbeats 1000000 in
theorem s_bw_4 (g : pG) {M : Nat → Nat → Int32} {A : aT} (hA : A.2.1 ≤ 30) (ko : Nat) (o1 : Int32) (hn : M 52 1 = nI ko) (ho : M 52 2 = o1) (x : Int32) : MS g mX4_bows 3 0 0 [.ref 52, .int x] (Gs (acC M A)) (dI (bowK ko 4 x A).1 (Gs (acC M (bowK ko 4 x A).2))) := by
  refine MS.of pn_X4 (Nat.le_of_ble_eq_true rfl) ?_
  have J : PW g mX4_bows (eN g (Gs (acC M A)).1 3 0 0 (dI (bowK ko 4 x A).1 (Gs (acC M (bowK ko 4 x A).2)))) 36 [some (.ref 52), some (.int x)] [] (Gs (acC M (stA 40 A))) 0 0 := by
    refine r_aload_n dX4_bows_36 rfl rfl ?_
    refine r_iload_n dX4_bows_37 rfl rfl ?_
    refine r_callSU_dI (ci := 4) dX4_bows_38 (s_b2_4 g (stA_le hA) ko o1 hn ho _) mf_X2_bows mi_X2_bows ml_X4_23 sm_X2_X2_bows su_X4_X2 (by decide) rfl rfl (Nat.le_of_ble_eq_true rfl) rfl (by decide) (Nat.le_of_ble_eq_true rfl) ⟨(Nat.le_of_ble_eq_true rfl), (Nat.le_of_ble_eq_true rfl)⟩ ⟨(Nat.le_of_ble_eq_true rfl), (Nat.le_of_ble_eq_true rfl)⟩ ?_
    refine r_iconst (v := 5) dX4_bows_41 (by decide) ?_
    refine r_iadd dX4_bows_42 ?_
    refine r_iret dX4_bows_43 rfl (Nat.le_refl _) ?_
    (try dsimp only [Gs_M])
    exact ⟨rfl, rfl⟩
  refine r_aload_n dX4_bows_0 rfl rfl ?_
  refine r_getR (q := 45) dX4_bows_1 (ci := 4) (kf := 0) rfl (Nat.le_of_ble_eq_true rfl) (by decide) (by decide) rfl fl_X4_7 (Or.inr sf_X4_log) rfl ?_
  refine r_getI dX4_bows_4 (ci := 9) (kf := 1) rfl (Nat.le_of_ble_eq_true rfl) (by decide) (by decide) rfl fl_X4_13 (Or.inl rfl) ?_
  rw [acC_c]
  refine r_bipush (v := 30) dX4_bows_7 (by decide) ?_
  refine r_icmp_geN (A.2.1) (30) (tgt := 36) dX4_bows_9 (by decide) (by omega) (by omega) (fun c_9 => ?_) (fun c_9 => ?_)
  · (try dsimp only [Gs_M] at c_9)
    rw [acC_n (b := 40) (by omega)]
    exact PW.subL J (by repeat' first | exact True.intro | refine And.intro rfl ?_)
  · (try dsimp only [Gs_M] at c_9)
    refine r_aload_n dX4_bows_12 rfl rfl ?_
    refine r_getR (q := 45) dX4_bows_13 (ci := 4) (kf := 0) rfl (Nat.le_of_ble_eq_true rfl) (by decide) (by decide) rfl fl_X4_7 (Or.inr sf_X4_log) rfl ?_
    refine r_getR (q := 46) dX4_bows_16 (ci := 9) (kf := 0) rfl (Nat.le_of_ble_eq_true rfl) (by decide) (by decide) rfl fl_X4_19 (Or.inl rfl) rfl ?_
    refine r_aload_n dX4_bows_19 rfl rfl ?_
    refine r_getR (q := 45) dX4_bows_20 (ci := 4) (kf := 0) rfl (Nat.le_of_ble_eq_true rfl) (by decide) (by decide) rfl fl_X4_7 (Or.inr sf_X4_log) rfl ?_
    refine r_dup dX4_bows_23 rfl ?_
    refine r_getI dX4_bows_24 (ci := 9) (kf := 1) rfl (Nat.le_of_ble_eq_true rfl) (by decide) (by decide) rfl fl_X4_13 (Or.inl rfl) ?_
    rw [acC_c]
    refine r_dup_x1 dX4_bows_27 rfl rfl ?_
    refine r_iconst (v := 1) dX4_bows_28 (by decide) ?_
    refine r_iaddN (A.2.1) (1) dX4_bows_29 ?_
    refine r_putI dX4_bows_30 (ci := 9) (kf := 1) rfl (Nat.le_of_ble_eq_true rfl) (by decide) (by decide) rfl fl_X4_13 (Or.inl rfl) rfl rfl rfl ?_
    refine r_bipush (v := 40) dX4_bows_33 (by decide) ?_
    refine r_iast (j := A.2.1) dX4_bows_35 rfl (Nat.le_of_ble_eq_true rfl) rfl (by omega) (by decide) ?_
    rw [acC_b (by omega)]
    exact PW.subL J (by repeat' first | exact True.intro | refine And.intro rfl ?_)
set_option maxRecDepth 20000 in
set_option maxHeartbeats 1000000 in
theorem s_b3_5 (g : pG) {M : Nat → Nat → Int32} {A : aT} (hA : A.2.1 ≤ 30) (ko : Nat) (o1 : Int32) (hn : M 53 1 = nI ko) (ho : M 53 2 = o1) (x : Int32) : MS g mX3_bows 1 0 0 [.ref 53, .int x] (Gs (acC M A)) (dI (((x * 6 - nI ko, stA 10 A) : Int32 × aT)).1 (Gs (acC M (((x * 6 - nI ko, stA 10 A) : Int32 × aT)).2))) := by
  refine MS.of pn_X3 (Nat.le_of_ble_eq_true rfl) ?_
  have J : PW g mX3_bows (eN g (Gs (acC M A)).1 1 0 0 (dI (((x * 6 - nI ko, stA 10 A) : Int32 × aT)).1 (Gs (acC M (((x * 6 - nI ko, stA 10 A) : Int32 × aT)).2)))) 36 [some (.ref 53), some (.int x)] [] (Gs (acC M (stA 10 A))) 0 0 := by
    refine r_iload_n dX3_bows_36 rfl rfl ?_
    refine r_bipush (v := 6) dX3_bows_37 (by decide) ?_
    refine r_imul dX3_bows_39 ?_
    refine r_aload_n dX3_bows_40 rfl rfl ?_
    refine r_getI dX3_bows_41 (ci := 7) (kf := 1) rfl (Nat.le_of_ble_eq_true rfl) (by decide) (by decide) rfl fl_X3_13 (Or.inl rfl) ?_
    rw [show ∀ A : aT, (Gs (acC M A)).2.2.2 53 1 = nI ko from fun _ => hn]
    refine r_isub dX3_bows_44 ?_
    refine r_iret dX3_bows_45 rfl (Nat.le_refl _) ?_
    (try dsimp only [Gs_M])
    exact ⟨rfl, rfl⟩
  refine r_aload_n dX3_bows_0 rfl rfl ?_
  refine r_getR (q := 45) dX3_bows_1 (ci := 7) (kf := 0) rfl (Nat.le_of_ble_eq_true rfl) (by decide) (by decide) rfl fl_X3_7 (Or.inl rfl) rfl ?_
  refine r_getI dX3_bows_4 (ci := 9) (kf := 1) rfl (Nat.le_of_ble_eq_true rfl) (by decide) (by decide) rfl fl_X3_20 (Or.inl rfl) ?_
  rw [acC_c]
  refine r_bipush (v := 30) dX3_bows_7 (by decide) ?_
  refine r_icmp_geN (A.2.1) (30) (tgt := 36) dX3_bows_9 (by decide) (by omega) (by omega) (fun c_9 => ?_) (fun c_9 => ?_)
  · (try dsimp only [Gs_M] at c_9)
    rw [acC_n (b := 10) (by omega)]
    exact PW.subL J (by repeat' first | exact True.intro | refine And.intro rfl ?_)
  · (try dsimp only [Gs_M] at c_9)
    refine r_aload_n dX3_bows_12 rfl rfl ?_
    refine r_getR (q := 45) dX3_bows_13 (ci := 7) (kf := 0) rfl (Nat.le_of_ble_eq_true rfl) (by decide) (by decide) rfl fl_X3_7 (Or.inl rfl) rfl ?_
    refine r_getR (q := 46) dX3_bows_16 (ci := 9) (kf := 0) rfl (Nat.le_of_ble_eq_true rfl) (by decide) (by decide) rfl fl_X3_25 (Or.inl rfl) rfl ?_
    refine r_aload_n dX3_bows_19 rfl rfl ?_
    refine r_getR (q := 45) dX3_bows_20 (ci := 7) (kf := 0) rfl (Nat.le_of_ble_eq_true rfl) (by decide) (by decide) rfl fl_X3_7 (Or.inl rfl) rfl ?_
    refine r_dup dX3_bows_23 rfl ?_
    refine r_getI dX3_bows_24 (ci := 9) (kf := 1) rfl (Nat.le_of_ble_eq_true rfl) (by decide) (by decide) rfl fl_X3_20 (Or.inl rfl) ?_
    rw [acC_c]
    refine r_dup_x1 dX3_bows_27 rfl rfl ?_
    refine r_iconst (v := 1) dX3_bows_28 (by decide) ?_
    refine r_iaddN (A.2.1) (1) dX3_bows_29 ?_
    refine r_putI dX3_bows_30 (ci := 9) (kf := 1) rfl (Nat.le_of_ble_eq_true rfl) (by decide) (by decide) rfl fl_X3_20 (Or.inl rfl) rfl rfl rfl ?_
    refine r_bipush (v := 10) dX3_bows_33 (by decide) ?_
    refine r_iast (j := A.2.1) dX3_bows_35 rfl (Nat.le_of_ble_eq_true rfl) rfl (by omega) (by decide) ?_
    rw [acC_b (by omega)]
    exact PW.subL J (by repeat' first | exact True.intro | refine And.intro rfl ?_)
theorem s_bw_5 (g : pG) {M : Nat → Nat → Int32} {A : aT} (hA : A.2.1 ≤ 30) (ko : Nat) (o1 : Int32) (hn : M 53 1 = nI ko) (ho : M 53 2 = o1) (x : Int32) : MS g mX3_bows 1 0 0 [.ref 53, .int x] (Gs (acC M A)) (dI (bowK ko 5 x A).1 (Gs (acC M (bowK ko 5 x A).2))) := s_b3_5 g hA ko o1 hn ho x
