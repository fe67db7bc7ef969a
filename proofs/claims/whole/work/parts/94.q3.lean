theorem r_callIm_eV {g : pG} {M M2 : pM} {E : pE} {pc : Nat} {L : pL} {st av stk : List Value} {S : pS} {k n d2 mc ms n2 idx : Nat} {Q : pS → Prop} {b : Nat} (d : decode M.2.1 pc = .ok (.invokespecial idx, 3)) (hM : MS g M2 d2 mc ms (.ref b :: av) S (eV Q)) (hf : mF M2 n2) (hi : Cond.instanceMethod M2.1 ∈ gT) (hl : Cond.methodLink M.1.cls idx M2.1 ∈ gT) (hnm : M2.1.name = "<init>") (hrn : M2.2.2.2 = none) (hn : av.length = n2) (hst : stk = av.reverse ++ .ref b :: st) (hsum : (st.map fun v => v.category).sum ≤ 8) (hR : d2 + 1 ≤ E.1.frames ∧ 8 + (M2.2.2.1 + 11) + 200 * d2 ≤ E.1.locals) (hcs : k + mc ≤ E.1.cells ∧ n + ms ≤ E.1.slots) (kk : ∀ S', Q S' → S'.1 = S.1 + mc → PW g M E (pc + 3) L st S' (k + mc) (n + ms)) : PW g M E pc L stk S k n :=
  r_callI d hM hf hi hl hnm hrn hn hst hsum hR hcs (fun v S' hp hn1 => by obtain ⟨rfl, hq⟩ := hp; exact kk S' hq hn1)
theorem r_callIm_dV {g : pG} {M M2 : pM} {E : pE} {pc : Nat} {L : pL} {st av stk : List Value} {S : pS} {k n d2 mc ms n2 idx : Nat} {Y : pS} {b : Nat} (d : decode M.2.1 pc = .ok (.invokespecial idx, 3)) (hM : MS g M2 d2 mc ms (.ref b :: av) S (dV Y)) (hf : mF M2 n2) (hi : Cond.instanceMethod M2.1 ∈ gT) (hl : Cond.methodLink M.1.cls idx M2.1 ∈ gT) (hnm : M2.1.name = "<init>") (hrn : M2.2.2.2 = none) (hn : av.length = n2) (hst : stk = av.reverse ++ .ref b :: st) (hsum : (st.map fun v => v.category).sum ≤ 8) (hR : d2 + 1 ≤ E.1.frames ∧ 8 + (M2.2.2.1 + 11) + 200 * d2 ≤ E.1.locals) (hcs : k + mc ≤ E.1.cells ∧ n + ms ≤ E.1.slots) (kk : PW g M E (pc + 3) L st Y (k + mc) (n + ms)) : PW g M E pc L stk S k n :=
  r_callI d hM hf hi hl hnm hrn hn hst hsum hR hcs (fun v S' hp hn1 => by obtain ⟨rfl, rfl⟩ := hp; exact kk)
theorem r_callINm_eV {g : pG} {M M2 : pM} {E : pE} {pc : Nat} {L : pL} {st av stk : List Value} {S : pS} {k n d2 mc ms n2 idx : Nat} {Q : pS → Prop} {b : Nat} (d : decode M.2.1 pc = .ok (.invokespecial idx, 3)) (hM : MS g M2 d2 mc ms (.ref b :: av) S (eV Q)) (hf : mF M2 n2) (hi : Cond.instanceMethod M2.1 ∈ gT) (hl : (M.1.cls, idx, M2.1) ∈ xMN) (hnm : M2.1.name = "<init>") (hrn : M2.2.2.2 = none) (hn : av.length = n2) (hst : stk = av.reverse ++ .ref b :: st) (hsum : (st.map fun v => v.category).sum ≤ 8) (hR : d2 + 1 ≤ E.1.frames ∧ 8 + (M2.2.2.1 + 11) + 200 * d2 ≤ E.1.locals) (hcs : k + mc ≤ E.1.cells ∧ n + ms ≤ E.1.slots) (kk : ∀ S', Q S' → S'.1 = S.1 + mc → PW g M E (pc + 3) L st S' (k + mc) (n + ms)) : PW g M E pc L stk S k n :=
  r_callIN d hM hf hi hl hnm hrn hn hst hsum hR hcs (fun v S' hp hn1 => by obtain ⟨rfl, hq⟩ := hp; exact kk S' hq hn1)
theorem r_callINm_dV {g : pG} {M M2 : pM} {E : pE} {pc : Nat} {L : pL} {st av stk : List Value} {S : pS} {k n d2 mc ms n2 idx : Nat} {Y : pS} {b : Nat} (d : decode M.2.1 pc = .ok (.invokespecial idx, 3)) (hM : MS g M2 d2 mc ms (.ref b :: av) S (dV Y)) (hf : mF M2 n2) (hi : Cond.instanceMethod M2.1 ∈ gT) (hl : (M.1.cls, idx, M2.1) ∈ xMN) (hnm : M2.1.name = "<init>") (hrn : M2.2.2.2 = none) (hn : av.length = n2) (hst : stk = av.reverse ++ .ref b :: st) (hsum : (st.map fun v => v.category).sum ≤ 8) (hR : d2 + 1 ≤ E.1.frames ∧ 8 + (M2.2.2.1 + 11) + 200 * d2 ≤ E.1.locals) (hcs : k + mc ≤ E.1.cells ∧ n + ms ≤ E.1.slots) (kk : PW g M E (pc + 3) L st Y (k + mc) (n + ms)) : PW g M E pc L stk S k n :=
  r_callIN d hM hf hi hl hnm hrn hn hst hsum hR hcs (fun v S' hp hn1 => by obtain ⟨rfl, rfl⟩ := hp; exact kk)
theorem nw_rs {n : Nat} {l : List (Nat × Nat × Nat)} {M : Nat → Nat → Int32} {i k q : Nat} : rSet (Nw n l M) i k (some q) = Nw n ((i, k, q) :: l) M := rfl
theorem rSL_lt {b : Nat} : ∀ l : List (Nat × Nat × Nat), l.all (fun e => decide (e.1 < b)) = true → ∀ m, b ≤ m → rSL l m = fun _ => none
  | [], _, _, _ => rfl
  | e :: l, h, m, hm => by
    rw [List.all_cons, Bool.and_eq_true] at h
    have h1 := of_decide_eq_true h.1
    show (if m = e.1 then _ else rSL l m) = _
    rw [if_neg (by omega)]
    exact rSL_lt l h.2 m hm
theorem vw_nw {n n' b : Nat} {l l' : List (Nat × Nat × Nat)} {M M' : Nat → Nat → Int32} (h : ∀ c, c ≤ 6 → M' (b + c) = M (b + c)) : vw (Nw n' l' M') b = vw (Nw n l M) b := vw_cong h
def lC : List (Nat × Nat × Nat) := [(0, 14, 47), (47, 5, 53), (53, 0, 45), (47, 4, 52), (52, 0, 45), (47, 3, 51), (51, 0, 45), (47, 2, 50), (50, 0, 45), (47, 1, 49), (49, 0, 45), (47, 0, 48), (48, 0, 45), (0, 13, 45), (45, 0, 46), (0, 12, 44), (0, 11, 43), (0, 10, 42), (0, 9, 33), (33, 3, 40), (40, 2, 41), (33, 2, 38), (38, 2, 39), (33, 1, 36), (36, 2, 37), (33, 0, 34), (34, 2, 35), (0, 7, 32), (0, 6, 31), (0, 5, 29), (29, 0, 30), (0, 4, 28), (28, 1, 10), (28, 0, 1), (0, 2, 19), (19, 11, 27), (19, 10, 26), (19, 5, 25), (19, 4, 24), (19, 3, 23), (19, 2, 22), (19, 1, 21), (19, 0, 20), (0, 1, 10), (10, 11, 18), (10, 10, 17), (10, 5, 16), (10, 4, 15), (10, 3, 14), (10, 2, 13), (10, 1, 12), (10, 0, 11), (0, 0, 1), (1, 11, 9), (1, 10, 8), (1, 5, 7), (1, 4, 6), (1, 3, 5), (1, 2, 4), (1, 1, 3), (1, 0, 2)]
def zC : List Nat := [0, 28, 29, 30, 31, 32, 33, 35, 37, 39, 41, 42, 43, 44, 45, 46, 47, 48, 49, 50, 51, 52, 53]
set_option maxRecDepth 20000 in
set_option maxHeartbeats 1000000 in
theorem s_X11_init (g : pG) {M : Nat → Nat → Int32} (hM0 : ∀ m, M m = fun _ => 0) : MS g mX11_init 5 53 895 [.ref 0] (Nw 1 [] M) (eV (fun S1 => ∃ M1, S1 = Nw 54 lC M1 ∧ (∀ q, 54 ≤ q → M1 q = fun _ => 0) ∧ vw S1 1 = coB ∧ vw S1 10 = coB ∧ vw S1 19 = coB ∧ (∀ q, q ∈ zC → M1 q = fun _ => 0) ∧ ∀ j, j < 4 → M1 (34 + 2 * j) = upd (fun _ => 0) 0 (-1))) := by
  refine MS.of pn_X11 (Nat.le_of_ble_eq_true rfl) ?_
  have hM : ∀ m, 1 ≤ m → M m = fun _ => 0 := fun m _ => hM0 m
  refine r_aload_n dX11_init_0 rfl rfl ?_
  refine r_objInit dX11_init_1 ml_X11_1 mi_Obj cd_Obj (Nat.le_of_ble_eq_true rfl) (Nat.le_of_ble_eq_true rfl) (Nat.le_of_ble_eq_true rfl) ?_
  refine r_aload_n dX11_init_4 rfl rfl ?_
  refine n_new (ci := 0) (w := 12) dX11_init_5 (by decide) rfl cl_X11_7 nw_X0 in_X0 (by decide) (Nat.le_of_ble_eq_true rfl) (Nat.le_of_ble_eq_true rfl) rfl (rSL_all _ (by decide +kernel)) (by repeat' first | exact hM _ (by omega) | refine mU_n (by omega) ?_) ?_
  refine r_dup dX11_init_8 rfl ?_
  refine r_callIm_eV dX11_init_9 (s_X0_init g (b := 1) (Or.inl rfl) (rSL_lt _ (by decide +kernel)) hM) mf_X0_init mi_X0_init ml_X11_9 rfl rfl rfl rfl (Nat.le_of_ble_eq_true rfl) ⟨(Nat.le_of_ble_eq_true rfl), (Nat.le_of_ble_eq_true rfl)⟩ ⟨(Nat.le_of_ble_eq_true rfl), (Nat.le_of_ble_eq_true rfl)⟩ (fun S_9 q_9 z_9 => ?_)
  obtain ⟨M1, rfl, h1, v1⟩ := q_9
  replace hM : ∀ m, 10 ≤ m → M1 m = fun _ => 0 := fun m hm => (h1 m (by omega)).trans (hM m (by omega))
  refine n_putR (q := 1) (i := 0) dX11_init_12 (ci := 11) (kf := 0) rfl (Nat.le_of_ble_eq_true rfl) (by decide) (by decide) rfl fl_X11_10 rfl rfl rfl rfl ?_
  refine r_aload_n dX11_init_15 rfl rfl ?_
  refine n_new (ci := 0) (w := 12) dX11_init_16 (by decide) rfl cl_X11_7 nw_X0 in_X0 (by decide) (Nat.le_of_ble_eq_true rfl) (Nat.le_of_ble_eq_true rfl) rfl (rSL_all _ (by decide +kernel)) (by repeat' first | exact hM _ (by omega) | refine mU_n (by omega) ?_) ?_
  refine r_dup dX11_init_19 rfl ?_
  refine r_callIm_eV dX11_init_20 (s_X0_init g (b := 10) (Or.inr (Or.inl rfl)) (rSL_lt _ (by decide +kernel)) hM) mf_X0_init mi_X0_init ml_X11_9 rfl rfl rfl rfl (Nat.le_of_ble_eq_true rfl) ⟨(Nat.le_of_ble_eq_true rfl), (Nat.le_of_ble_eq_true rfl)⟩ ⟨(Nat.le_of_ble_eq_true rfl), (Nat.le_of_ble_eq_true rfl)⟩ (fun S_20 q_20 z_20 => ?_)
  obtain ⟨M2, rfl, h2, v2⟩ := q_20
  replace hM : ∀ m, 19 ≤ m → M2 m = fun _ => 0 := fun m hm => (h2 m (by omega)).trans (hM m (by omega))
  refine n_putR (q := 10) (i := 0) dX11_init_23 (ci := 11) (kf := 1) rfl (Nat.le_of_ble_eq_true rfl) (by decide) (by decide) rfl fl_X11_16 rfl rfl rfl rfl ?_
  refine r_aload_n dX11_init_26 rfl rfl ?_
  refine n_new (ci := 0) (w := 12) dX11_init_27 (by decide) rfl cl_X11_7 nw_X0 in_X0 (by decide) (Nat.le_of_ble_eq_true rfl) (Nat.le_of_ble_eq_true rfl) rfl (rSL_all _ (by decide +kernel)) (by repeat' first | exact hM _ (by omega) | refine mU_n (by omega) ?_) ?_
  refine r_dup dX11_init_30 rfl ?_
  refine r_callIm_eV dX11_init_31 (s_X0_init g (b := 19) (Or.inr (Or.inr rfl)) (rSL_lt _ (by decide +kernel)) hM) mf_X0_init mi_X0_init ml_X11_9 rfl rfl rfl rfl (Nat.le_of_ble_eq_true rfl) ⟨(Nat.le_of_ble_eq_true rfl), (Nat.le_of_ble_eq_true rfl)⟩ ⟨(Nat.le_of_ble_eq_true rfl), (Nat.le_of_ble_eq_true rfl)⟩ (fun S_31 q_31 z_31 => ?_)
  obtain ⟨M3, rfl, h3, v3⟩ := q_31
  replace hM : ∀ m, 28 ≤ m → M3 m = fun _ => 0 := fun m hm => (h3 m (by omega)).trans (hM m (by omega))
  refine n_putR (q := 19) (i := 0) dX11_init_34 (ci := 11) (kf := 2) rfl (Nat.le_of_ble_eq_true rfl) (by decide) (by decide) rfl fl_X11_19 rfl rfl rfl rfl ?_
  refine r_aload_n dX11_init_37 rfl rfl ?_
  refine n_new (ci := 10) (w := 2) dX11_init_38 (by decide) rfl cl_X11_22 nw_X10 in_X10 (by decide) (Nat.le_of_ble_eq_true rfl) (Nat.le_of_ble_eq_true rfl) rfl (rSL_all _ (by decide +kernel)) (by repeat' first | exact hM _ (by omega) | refine mU_n (by omega) ?_) ?_
  refine r_dup dX11_init_41 rfl ?_
  refine r_aload_n dX11_init_42 rfl rfl ?_
  refine r_getR (q := 1) dX11_init_43 (ci := 11) (kf := 0) rfl (Nat.le_of_ble_eq_true rfl) (by decide) (by decide) rfl fl_X11_10 (Or.inl rfl) rfl ?_
  refine r_aload_n dX11_init_46 rfl rfl ?_
  refine r_getR (q := 10) dX11_init_47 (ci := 11) (kf := 1) rfl (Nat.le_of_ble_eq_true rfl) (by decide) (by decide) rfl fl_X11_16 (Or.inl rfl) rfl ?_
  refine r_callI_dV dX11_init_50 (s_X10_init g) mf_X10_init mi_X10_init ml_X11_24 rfl rfl rfl rfl (Nat.le_of_ble_eq_true rfl) ⟨(Nat.le_of_ble_eq_true rfl), (Nat.le_of_ble_eq_true rfl)⟩ ⟨(Nat.le_of_ble_eq_true rfl), (Nat.le_of_ble_eq_true rfl)⟩ ?_
  refine n_putR (q := 28) (i := 0) dX11_init_53 (ci := 11) (kf := 4) rfl (Nat.le_of_ble_eq_true rfl) (by decide) (by decide) rfl fl_X11_27 rfl rfl rfl rfl ?_
  refine r_aload_n dX11_init_56 rfl rfl ?_
  refine n_new (ci := 8) (w := 4) dX11_init_57 (by decide) rfl cl_X11_31 nw_X8 in_X8 (by decide) (Nat.le_of_ble_eq_true rfl) (Nat.le_of_ble_eq_true rfl) rfl (rSL_all _ (by decide +kernel)) (by repeat' first | exact hM _ (by omega) | refine mU_n (by omega) ?_) ?_
  refine r_dup dX11_init_60 rfl ?_
  refine r_callINm_dV dX11_init_61 (s_X8_init g (rSL_lt _ (by decide +kernel)) (fun m hm => by repeat' first | exact hM _ (by omega) | refine mU_n (by omega) ?_)) mf_X8_init mi_X8_init (by decide) rfl rfl rfl rfl (Nat.le_of_ble_eq_true rfl) ⟨(Nat.le_of_ble_eq_true rfl), (Nat.le_of_ble_eq_true rfl)⟩ ⟨(Nat.le_of_ble_eq_true rfl), (Nat.le_of_ble_eq_true rfl)⟩ ?_
  refine n_putR (q := 29) (i := 0) dX11_init_64 (ci := 11) (kf := 5) rfl (Nat.le_of_ble_eq_true rfl) (by decide) (by decide) rfl fl_X11_34 rfl rfl rfl rfl ?_
  refine r_aload_n dX11_init_67 rfl rfl ?_
  refine r_bipush (v := 30) dX11_init_68 (by decide) ?_
  refine n_newA (N := 30) (t := 0) dX11_init_70 rfl (by decide) rfl ac_int rfl ra_int rfl (by decide) (by decide) (by decide) (Nat.le_of_ble_eq_true rfl) (Nat.le_of_ble_eq_true rfl) rfl (rSL_all _ (by decide +kernel)) (by repeat' first | exact hM _ (by omega) | refine mU_n (by omega) ?_) ?_
  refine n_putR (q := 31) (i := 0) dX11_init_72 (ci := 11) (kf := 6) rfl (Nat.le_of_ble_eq_true rfl) (by decide) (by decide) rfl fl_X11_38 rfl rfl rfl rfl ?_
  refine r_aload_n dX11_init_75 rfl rfl ?_
  refine r_bipush (v := 30) dX11_init_76 (by decide) ?_
  refine n_newA (N := 30) (t := 0) dX11_init_78 rfl (by decide) rfl ac_int rfl ra_int rfl (by decide) (by decide) (by decide) (Nat.le_of_ble_eq_true rfl) (Nat.le_of_ble_eq_true rfl) rfl (rSL_all _ (by decide +kernel)) (by repeat' first | exact hM _ (by omega) | refine mU_n (by omega) ?_) ?_
  refine n_putR (q := 32) (i := 0) dX11_init_80 (ci := 11) (kf := 7) rfl (Nat.le_of_ble_eq_true rfl) (by decide) (by decide) rfl fl_X11_42 rfl rfl rfl rfl ?_
  refine r_aload_n dX11_init_83 rfl rfl ?_
  refine r_iconst (v := 4) dX11_init_84 (by decide) ?_
  refine n_newQ (N := 4) (t := 4) dX11_init_85 (by decide) rfl cl_X11_45 (fun U h => h.2.2.2.2.2.2.2.2.2) rfl (by decide) (by decide) (Nat.le_of_ble_eq_true rfl) (Nat.le_of_ble_eq_true rfl) rfl (rSL_all _ (by decide +kernel)) (by repeat' first | exact hM _ (by omega) | refine mU_n (by omega) ?_) ?_
  refine r_dup dX11_init_88 rfl ?_
  refine r_iconst (v := 0) dX11_init_89 (by decide) ?_
  refine n_new (ci := 6) (w := 3) dX11_init_90 (by decide) rfl cl_X11_45 nw_X6 in_X6 (by decide) (Nat.le_of_ble_eq_true rfl) (Nat.le_of_ble_eq_true rfl) rfl (rSL_all _ (by decide +kernel)) (by repeat' first | exact hM _ (by omega) | refine mU_n (by omega) ?_) ?_
  refine r_dup dX11_init_93 rfl ?_
  refine r_callINm_dV dX11_init_94 (s_X6_init g (p := 34) (Or.inl rfl) (rSL_lt _ (by decide +kernel)) (fun m hm => by repeat' first | exact hM _ (by omega) | refine mU_n (by omega) ?_)) mf_X6_init mi_X6_init (by decide) rfl rfl rfl rfl (Nat.le_of_ble_eq_true rfl) ⟨(Nat.le_of_ble_eq_true rfl), (Nat.le_of_ble_eq_true rfl)⟩ ⟨(Nat.le_of_ble_eq_true rfl), (Nat.le_of_ble_eq_true rfl)⟩ ?_
  refine r_aastS (j := 0) dX11_init_97 rfl (Nat.le_of_ble_eq_true rfl) rfl (by decide) (by decide) rfl (Nat.le_of_ble_eq_true rfl) (by decide) rfl ?_
  rw [nw_rs]
  refine r_dup dX11_init_98 rfl ?_
  refine r_iconst (v := 1) dX11_init_99 (by decide) ?_
  refine n_new (ci := 6) (w := 3) dX11_init_100 (by decide) rfl cl_X11_45 nw_X6 in_X6 (by decide) (Nat.le_of_ble_eq_true rfl) (Nat.le_of_ble_eq_true rfl) rfl (rSL_all _ (by decide +kernel)) (by repeat' first | exact hM _ (by omega) | refine mU_n (by omega) ?_) ?_
  refine r_dup dX11_init_103 rfl ?_
  refine r_callINm_dV dX11_init_104 (s_X6_init g (p := 36) (Or.inr (Or.inl rfl)) (rSL_lt _ (by decide +kernel)) (fun m hm => by repeat' first | exact hM _ (by omega) | refine mU_n (by omega) ?_)) mf_X6_init mi_X6_init (by decide) rfl rfl rfl rfl (Nat.le_of_ble_eq_true rfl) ⟨(Nat.le_of_ble_eq_true rfl), (Nat.le_of_ble_eq_true rfl)⟩ ⟨(Nat.le_of_ble_eq_true rfl), (Nat.le_of_ble_eq_true rfl)⟩ ?_
  refine r_aastS (j := 1) dX11_init_107 rfl (Nat.le_of_ble_eq_true rfl) rfl (by decide) (by decide) rfl (Nat.le_of_ble_eq_true rfl) (by decide) rfl ?_
  rw [nw_rs]
  refine r_dup dX11_init_108 rfl ?_
  refine r_iconst (v := 2) dX11_init_109 (by decide) ?_
  refine n_new (ci := 6) (w := 3) dX11_init_110 (by decide) rfl cl_X11_45 nw_X6 in_X6 (by decide) (Nat.le_of_ble_eq_true rfl) (Nat.le_of_ble_eq_true rfl) rfl (rSL_all _ (by decide +kernel)) (by repeat' first | exact hM _ (by omega) | refine mU_n (by omega) ?_) ?_
  refine r_dup dX11_init_113 rfl ?_
  refine r_callINm_dV dX11_init_114 (s_X6_init g (p := 38) (Or.inr (Or.inr (Or.inl rfl))) (rSL_lt _ (by decide +kernel)) (fun m hm => by repeat' first | exact hM _ (by omega) | refine mU_n (by omega) ?_)) mf_X6_init mi_X6_init (by decide) rfl rfl rfl rfl (Nat.le_of_ble_eq_true rfl) ⟨(Nat.le_of_ble_eq_true rfl), (Nat.le_of_ble_eq_true rfl)⟩ ⟨(Nat.le_of_ble_eq_true rfl), (Nat.le_of_ble_eq_true rfl)⟩ ?_
  refine r_aastS (j := 2) dX11_init_117 rfl (Nat.le_of_ble_eq_true rfl) rfl (by decide) (by decide) rfl (Nat.le_of_ble_eq_true rfl) (by decide) rfl ?_
  rw [nw_rs]
  refine r_dup dX11_init_118 rfl ?_
  refine r_iconst (v := 3) dX11_init_119 (by decide) ?_
  refine n_new (ci := 6) (w := 3) dX11_init_120 (by decide) rfl cl_X11_45 nw_X6 in_X6 (by decide) (Nat.le_of_ble_eq_true rfl) (Nat.le_of_ble_eq_true rfl) rfl (rSL_all _ (by decide +kernel)) (by repeat' first | exact hM _ (by omega) | refine mU_n (by omega) ?_) ?_
  refine r_dup dX11_init_123 rfl ?_
  refine r_callINm_dV dX11_init_124 (s_X6_init g (p := 40) (Or.inr (Or.inr (Or.inr rfl))) (rSL_lt _ (by decide +kernel)) (fun m hm => by repeat' first | exact hM _ (by omega) | refine mU_n (by omega) ?_)) mf_X6_init mi_X6_init (by decide) rfl rfl rfl rfl (Nat.le_of_ble_eq_true rfl) ⟨(Nat.le_of_ble_eq_true rfl), (Nat.le_of_ble_eq_true rfl)⟩ ⟨(Nat.le_of_ble_eq_true rfl), (Nat.le_of_ble_eq_true rfl)⟩ ?_
  refine r_aastS (j := 3) dX11_init_127 rfl (Nat.le_of_ble_eq_true rfl) rfl (by decide) (by decide) rfl (Nat.le_of_ble_eq_true rfl) (by decide) rfl ?_
  rw [nw_rs]
  refine n_putR (q := 33) (i := 0) dX11_init_128 (ci := 11) (kf := 9) rfl (Nat.le_of_ble_eq_true rfl) (by decide) (by decide) rfl fl_X11_48 rfl rfl rfl rfl ?_
  refine r_aload_n dX11_init_131 rfl rfl ?_
  refine r_iconst (v := 4) dX11_init_132 (by decide) ?_
  refine n_newA (N := 4) (t := 0) dX11_init_133 rfl (by decide) rfl ac_int rfl ra_int rfl (by decide) (by decide) (by decide) (Nat.le_of_ble_eq_true rfl) (Nat.le_of_ble_eq_true rfl) rfl (rSL_all _ (by decide +kernel)) (by repeat' first | exact hM _ (by omega) | refine mU_n (by omega) ?_) ?_
  refine n_putR (q := 42) (i := 0) dX11_init_135 (ci := 11) (kf := 10) rfl (Nat.le_of_ble_eq_true rfl) (by decide) (by decide) rfl fl_X11_52 rfl rfl rfl rfl ?_
  refine r_aload_n dX11_init_138 rfl rfl ?_
  refine r_iconst (v := 4) dX11_init_139 (by decide) ?_
  refine n_newA (N := 4) (t := 0) dX11_init_140 rfl (by decide) rfl ac_int rfl ra_int rfl (by decide) (by decide) (by decide) (Nat.le_of_ble_eq_true rfl) (Nat.le_of_ble_eq_true rfl) rfl (rSL_all _ (by decide +kernel)) (by repeat' first | exact hM _ (by omega) | refine mU_n (by omega) ?_) ?_
  refine n_putR (q := 43) (i := 0) dX11_init_142 (ci := 11) (kf := 11) rfl (Nat.le_of_ble_eq_true rfl) (by decide) (by decide) rfl fl_X11_55 rfl rfl rfl rfl ?_
  refine r_aload_n dX11_init_145 rfl rfl ?_
  refine r_iconst (v := 4) dX11_init_146 (by decide) ?_
  refine n_newA (N := 4) (t := 0) dX11_init_147 rfl (by decide) rfl ac_int rfl ra_int rfl (by decide) (by decide) (by decide) (Nat.le_of_ble_eq_true rfl) (Nat.le_of_ble_eq_true rfl) rfl (rSL_all _ (by decide +kernel)) (by repeat' first | exact hM _ (by omega) | refine mU_n (by omega) ?_) ?_
  refine n_putR (q := 44) (i := 0) dX11_init_149 (ci := 11) (kf := 12) rfl (Nat.le_of_ble_eq_true rfl) (by decide) (by decide) rfl fl_X11_58 rfl rfl rfl rfl ?_
  refine r_aload_n dX11_init_152 rfl rfl ?_
  refine n_new (ci := 9) (w := 3) dX11_init_153 (by decide) rfl cl_X11_61 nw_X9 in_X9 (by decide) (Nat.le_of_ble_eq_true rfl) (Nat.le_of_ble_eq_true rfl) rfl (rSL_all _ (by decide +kernel)) (by repeat' first | exact hM _ (by omega) | refine mU_n (by omega) ?_) ?_
  refine r_dup dX11_init_156 rfl ?_
  refine r_callINm_dV dX11_init_157 (s_X9_init g (rSL_lt _ (by decide +kernel)) (fun m hm => by repeat' first | exact hM _ (by omega) | refine mU_n (by omega) ?_)) mf_X9_init mi_X9_init (by decide) rfl rfl rfl rfl (Nat.le_of_ble_eq_true rfl) ⟨(Nat.le_of_ble_eq_true rfl), (Nat.le_of_ble_eq_true rfl)⟩ ⟨(Nat.le_of_ble_eq_true rfl), (Nat.le_of_ble_eq_true rfl)⟩ ?_
  refine n_putR (q := 45) (i := 0) dX11_init_160 (ci := 11) (kf := 13) rfl (Nat.le_of_ble_eq_true rfl) (by decide) (by decide) rfl fl_X11_64 rfl rfl rfl rfl ?_
  refine r_aload_n dX11_init_163 rfl rfl ?_
  refine r_bipush (v := 6) dX11_init_164 (by decide) ?_
  refine n_newQ (N := 6) (t := 3) dX11_init_166 (by decide) rfl cl_X11_68 (fun U h => h.2.2.2.2.2.2.2.2.1) rfl (by decide) (by decide) (Nat.le_of_ble_eq_true rfl) (Nat.le_of_ble_eq_true rfl) rfl (rSL_all _ (by decide +kernel)) (by repeat' first | exact hM _ (by omega) | refine mU_n (by omega) ?_) ?_
  refine r_dup dX11_init_169 rfl ?_
  refine r_iconst (v := 0) dX11_init_170 (by decide) ?_
  refine n_new (ci := 3) (w := 3) dX11_init_171 (by decide) rfl cl_X11_68 nw_X3 in_X3 (by decide) (Nat.le_of_ble_eq_true rfl) (Nat.le_of_ble_eq_true rfl) rfl (rSL_all _ (by decide +kernel)) (by repeat' first | exact hM _ (by omega) | refine mU_n (by omega) ?_) ?_
  refine r_dup dX11_init_174 rfl ?_
  refine r_aload_n dX11_init_175 rfl rfl ?_
  refine r_getR (q := 45) dX11_init_176 (ci := 11) (kf := 13) rfl (Nat.le_of_ble_eq_true rfl) (by decide) (by decide) rfl fl_X11_64 (Or.inl rfl) rfl ?_
  refine r_callI_dV dX11_init_179 (s_X3_init_48 g) mf_X3_init mi_X3_init ml_X11_70 rfl rfl rfl rfl (Nat.le_of_ble_eq_true rfl) ⟨(Nat.le_of_ble_eq_true rfl), (Nat.le_of_ble_eq_true rfl)⟩ ⟨(Nat.le_of_ble_eq_true rfl), (Nat.le_of_ble_eq_true rfl)⟩ ?_
  refine r_aastP (j := 0) dX11_init_182 rfl (Nat.le_of_ble_eq_true rfl) rfl (by decide) (by decide) rfl (Nat.le_of_ble_eq_true rfl) (by decide) (Or.inl rfl) ?_
  rw [nw_rs]
  refine r_dup dX11_init_183 rfl ?_
  refine r_iconst (v := 1) dX11_init_184 (by decide) ?_
  refine n_new (ci := 1) (w := 3) dX11_init_185 (by decide) rfl cl_X11_73 nw_X1 in_X1 (by decide) (Nat.le_of_ble_eq_true rfl) (Nat.le_of_ble_eq_true rfl) rfl (rSL_all _ (by decide +kernel)) (by repeat' first | exact hM _ (by omega) | refine mU_n (by omega) ?_) ?_
  refine r_dup dX11_init_188 rfl ?_
  refine r_aload_n dX11_init_189 rfl rfl ?_
  refine r_getR (q := 45) dX11_init_190 (ci := 11) (kf := 13) rfl (Nat.le_of_ble_eq_true rfl) (by decide) (by decide) rfl fl_X11_64 (Or.inl rfl) rfl ?_
  refine r_callI_dV dX11_init_193 (s_X1_init g) mf_X1_init mi_X1_init ml_X11_75 rfl rfl rfl rfl (Nat.le_of_ble_eq_true rfl) ⟨(Nat.le_of_ble_eq_true rfl), (Nat.le_of_ble_eq_true rfl)⟩ ⟨(Nat.le_of_ble_eq_true rfl), (Nat.le_of_ble_eq_true rfl)⟩ ?_
  refine r_aastP (j := 1) dX11_init_196 rfl (Nat.le_of_ble_eq_true rfl) rfl (by decide) (by decide) rfl (Nat.le_of_ble_eq_true rfl) (by decide) (Or.inr (by decide)) ?_
  rw [nw_rs]
  refine r_dup dX11_init_197 rfl ?_
  refine r_iconst (v := 2) dX11_init_198 (by decide) ?_
  refine n_new (ci := 2) (w := 3) dX11_init_199 (by decide) rfl cl_X11_76 nw_X2 in_X2 (by decide) (Nat.le_of_ble_eq_true rfl) (Nat.le_of_ble_eq_true rfl) rfl (rSL_all _ (by decide +kernel)) (by repeat' first | exact hM _ (by omega) | refine mU_n (by omega) ?_) ?_
  refine r_dup dX11_init_202 rfl ?_
  refine r_aload_n dX11_init_203 rfl rfl ?_
  refine r_getR (q := 45) dX11_init_204 (ci := 11) (kf := 13) rfl (Nat.le_of_ble_eq_true rfl) (by decide) (by decide) rfl fl_X11_64 (Or.inl rfl) rfl ?_
  refine r_callI_dV dX11_init_207 (s_X2_init g) mf_X2_init mi_X2_init ml_X11_78 rfl rfl rfl rfl (Nat.le_of_ble_eq_true rfl) ⟨(Nat.le_of_ble_eq_true rfl), (Nat.le_of_ble_eq_true rfl)⟩ ⟨(Nat.le_of_ble_eq_true rfl), (Nat.le_of_ble_eq_true rfl)⟩ ?_
  refine r_aastP (j := 2) dX11_init_210 rfl (Nat.le_of_ble_eq_true rfl) rfl (by decide) (by decide) rfl (Nat.le_of_ble_eq_true rfl) (by decide) (Or.inr (by decide)) ?_
  rw [nw_rs]
  refine r_dup dX11_init_211 rfl ?_
  refine r_iconst (v := 3) dX11_init_212 (by decide) ?_
  refine n_new (ci := 5) (w := 3) dX11_init_213 (by decide) rfl cl_X11_79 nw_X5 in_X5 (by decide) (Nat.le_of_ble_eq_true rfl) (Nat.le_of_ble_eq_true rfl) rfl (rSL_all _ (by decide +kernel)) (by repeat' first | exact hM _ (by omega) | refine mU_n (by omega) ?_) ?_
  refine r_dup dX11_init_216 rfl ?_
  refine r_aload_n dX11_init_217 rfl rfl ?_
  refine r_getR (q := 45) dX11_init_218 (ci := 11) (kf := 13) rfl (Nat.le_of_ble_eq_true rfl) (by decide) (by decide) rfl fl_X11_64 (Or.inl rfl) rfl ?_
  refine r_callI_dV dX11_init_221 (s_X5_init g) mf_X5_init mi_X5_init ml_X11_81 rfl rfl rfl rfl (Nat.le_of_ble_eq_true rfl) ⟨(Nat.le_of_ble_eq_true rfl), (Nat.le_of_ble_eq_true rfl)⟩ ⟨(Nat.le_of_ble_eq_true rfl), (Nat.le_of_ble_eq_true rfl)⟩ ?_
  refine r_aastP (j := 3) dX11_init_224 rfl (Nat.le_of_ble_eq_true rfl) rfl (by decide) (by decide) rfl (Nat.le_of_ble_eq_true rfl) (by decide) (Or.inr (by decide)) ?_
  rw [nw_rs]
  refine r_dup dX11_init_225 rfl ?_
  refine r_iconst (v := 4) dX11_init_226 (by decide) ?_
  refine n_new (ci := 4) (w := 3) dX11_init_227 (by decide) rfl cl_X11_82 nw_X4 in_X4 (by decide) (Nat.le_of_ble_eq_true rfl) (Nat.le_of_ble_eq_true rfl) rfl (rSL_all _ (by decide +kernel)) (by repeat' first | exact hM _ (by omega) | refine mU_n (by omega) ?_) ?_
  refine r_dup dX11_init_230 rfl ?_
  refine r_aload_n dX11_init_231 rfl rfl ?_
  refine r_getR (q := 45) dX11_init_232 (ci := 11) (kf := 13) rfl (Nat.le_of_ble_eq_true rfl) (by decide) (by decide) rfl fl_X11_64 (Or.inl rfl) rfl ?_
  refine r_callI_dV dX11_init_235 (s_X4_init g) mf_X4_init mi_X4_init ml_X11_84 rfl rfl rfl rfl (Nat.le_of_ble_eq_true rfl) ⟨(Nat.le_of_ble_eq_true rfl), (Nat.le_of_ble_eq_true rfl)⟩ ⟨(Nat.le_of_ble_eq_true rfl), (Nat.le_of_ble_eq_true rfl)⟩ ?_
  refine r_aastP (j := 4) dX11_init_238 rfl (Nat.le_of_ble_eq_true rfl) rfl (by decide) (by decide) rfl (Nat.le_of_ble_eq_true rfl) (by decide) (Or.inr (by decide)) ?_
  rw [nw_rs]
  refine r_dup dX11_init_239 rfl ?_
  refine r_iconst (v := 5) dX11_init_240 (by decide) ?_
  refine n_new (ci := 7) (w := 3) dX11_init_241 (by decide) rfl cl_X11_85 nw_X7 in_X7 (by decide) (Nat.le_of_ble_eq_true rfl) (Nat.le_of_ble_eq_true rfl) rfl (rSL_all _ (by decide +kernel)) (by repeat' first | exact hM _ (by omega) | refine mU_n (by omega) ?_) ?_
  refine r_dup dX11_init_244 rfl ?_
  refine r_aload_n dX11_init_245 rfl rfl ?_
  refine r_getR (q := 45) dX11_init_246 (ci := 11) (kf := 13) rfl (Nat.le_of_ble_eq_true rfl) (by decide) (by decide) rfl fl_X11_64 (Or.inl rfl) rfl ?_
  refine r_callI_dV dX11_init_249 (s_X7_init g) mf_X7_init mi_X7_init ml_X11_87 rfl rfl rfl rfl (Nat.le_of_ble_eq_true rfl) ⟨(Nat.le_of_ble_eq_true rfl), (Nat.le_of_ble_eq_true rfl)⟩ ⟨(Nat.le_of_ble_eq_true rfl), (Nat.le_of_ble_eq_true rfl)⟩ ?_
  refine r_aastP (j := 5) dX11_init_252 rfl (Nat.le_of_ble_eq_true rfl) rfl (by decide) (by decide) rfl (Nat.le_of_ble_eq_true rfl) (by decide) (Or.inr (by decide)) ?_
  rw [nw_rs]
  refine n_putR (q := 47) (i := 0) dX11_init_253 (ci := 11) (kf := 14) rfl (Nat.le_of_ble_eq_true rfl) (by decide) (by decide) rfl fl_X11_88 rfl rfl rfl rfl ?_
  refine r_vret dX11_init_256 rfl (Nat.le_refl _) ?_
  (try dsimp only [Gs_M])
  have hX : ∀ q, q ≠ 34 → q ≠ 36 → q ≠ 38 → q ≠ 40 → mU (mU (mU (mU M3 34 0 (-1)) 36 0 (-1)) 38 0 (-1)) 40 0 (-1) q = M3 q := fun q a1 a2 a3 a4 => mU_n a4 (mU_n a3 (mU_n a2 (mU_n a1 rfl)))
  refine ⟨rfl, _, rfl, fun q hq => (hX q (by omega) (by omega) (by omega) (by omega)).trans (hM q (by omega)), ?_, ?_, ?_, fun q hq => ?_, fun j hj => ?_⟩
  · refine (vw_nw fun c hc => ?_).trans v1
    exact (hX _ (by omega) (by omega) (by omega) (by omega)).trans ((h3 _ (by omega)).trans (h2 _ (by omega)))
  · refine (vw_nw fun c hc => ?_).trans v2
    exact (hX _ (by omega) (by omega) (by omega) (by omega)).trans (h3 _ (by omega))
  · refine (vw_nw fun c hc => ?_).trans v3
    exact hX _ (by omega) (by omega) (by omega) (by omega)
  · refine (hX q (fun z => ?_) (fun z => ?_) (fun z => ?_) (fun z => ?_)).trans ?_
    · subst z; exact absurd hq (by decide)
    · subst z; exact absurd hq (by decide)
    · subst z; exact absurd hq (by decide)
    · subst z; exact absurd hq (by decide)
    · by_cases z : 28 ≤ q
      · exact hM q z
      · have : q = 0 := by
          have h0 := (by decide : ∀ q ∈ zC, q = 0 ∨ 28 ≤ q) q hq
          omega
        subst this
        exact (h3 0 (by omega)).trans ((h2 0 (by omega)).trans ((h1 0 (by omega)).trans (hM0 0)))
  · rcases (by omega : j = 0 ∨ j = 1 ∨ j = 2 ∨ j = 3) with rfl | rfl | rfl | rfl
    · refine mU_n (by omega) (mU_n (by omega) (mU_n (by omega) ?_))
      show upd (M3 34) 0 (-1) = _
      rw [hM 34 (by omega)]
    · refine mU_n (by omega) (mU_n (by omega) ?_)
      show upd (mU M3 34 0 (-1) 36) 0 (-1) = _
      rw [show mU M3 34 0 (-1) 36 = fun _ => 0 from mU_n (by omega) (hM 36 (by omega))]
    · refine mU_n (by omega) ?_
      show upd (mU (mU M3 34 0 (-1)) 36 0 (-1) 38) 0 (-1) = _
      rw [show mU (mU M3 34 0 (-1)) 36 0 (-1) 38 = fun _ => 0 from mU_n (by omega) (mU_n (by omega) (hM 38 (by omega)))]
    · show upd (mU (mU (mU M3 34 0 (-1)) 36 0 (-1)) 38 0 (-1) 40) 0 (-1) = _
      rw [show mU (mU (mU M3 34 0 (-1)) 36 0 (-1)) 38 0 (-1) 40 = fun _ => 0 from mU_n (by omega) (mU_n (by omega) (mU_n (by omega) (hM 40 (by omega))))]
