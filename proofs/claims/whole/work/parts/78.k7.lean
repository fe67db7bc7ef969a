/-! ===== shelves of the class and the reference's two rows ===== -/
def SfA (x n s ho h1 : Int32) : Prop := (x = 0 ∧ ho = -1) ∨ (x = 1 ∧ ho = 0 ∧ n = h1) ∨ (x = 2 ∧ (∃ d, d ≤ 3 ∧ s = nI d ∧ ho = 10 + nI d) ∧ n = h1)
def SfR (S : pS) (ho h1 : Nat → Int32) : Prop := ∀ j, j < 4 → SfA (S.2.2.2 42 j) (S.2.2.2 43 j) (S.2.2.2 44 j) (ho j) (h1 j)
theorem SfR.fr {S S' : pS} {ho h1 : Nat → Int32} (h : SfR S ho h1) {J : List Nat} (hf : fr J S S') (a : 42 ∉ J) (b : 43 ∉ J) (c : 44 ∉ J) : SfR S' ho h1 := fun j hj => by
  rw [hf.2 _ a, hf.2 _ b, hf.2 _ c]
  exact h j hj
theorem SfR.set {S : pS} {ho h1 : Nat → Int32} (h : SfR S ho h1) {j : Nat} {x n s a b : Int32} (hA : SfA x n s a b) : SfR (mSet (mSet (mSet S 42 j x) 43 j n) 44 j s) (upd ho j a) (upd h1 j b) := fun i hi => by
  rw [mSet_ne (by decide), mSet_ne (by decide), mSet_at, mSet_ne (by decide), mSet_at, mSet_ne (by decide), mSet_at, mSet_ne (by decide), mSet_ne (by decide)]
  by_cases e : i = j
  · subst e
    rw [pk_us, pk_us, pk_us, pk_us, pk_us]
    exact hA
  · rw [pk_un e, pk_un e, pk_un e, pk_un e, pk_un e]
    exact h i hi
theorem ten_nn {d : Nat} (h : d ≤ 3) : (10 : Int32) + nI d = nI (10 + d) := nI_add 10 d
set_option maxRecDepth 20000 in
set_option maxHeartbeats 1000000 in
theorem s_X11_shelve (g : pG) {S : pS} (hS : sOk S) (j : Nat) (hj : j < 4) (x n s : Int32) : MS g mX11_shelve 1 0 0 [.ref 0, .int (nI j), .int x, .int n, .int s] (S) (dI 1 (mSet (mSet (mSet S 42 j x) 43 j n) 44 j s)) := by
  obtain ⟨M0, rfl⟩ := sOk_gs hS
  refine MS.of pn_X11 (Nat.le_of_ble_eq_true rfl) ?_
  refine r_aload_n dX11_shelve_0 rfl rfl ?_
  refine r_getR (q := 42) dX11_shelve_1 (ci := 11) (kf := 10) rfl (Nat.le_of_ble_eq_true rfl) (by decide) (by decide) rfl fl_X11_52 (Or.inl rfl) rfl ?_
  refine r_iload_n dX11_shelve_4 rfl rfl ?_
  refine r_iload_n dX11_shelve_5 rfl rfl ?_
  refine r_iast (j := j) dX11_shelve_6 rfl (Nat.le_of_ble_eq_true rfl) rfl (by omega) (by decide) ?_
  refine r_aload_n dX11_shelve_7 rfl rfl ?_
  refine r_getR (q := 43) dX11_shelve_8 (ci := 11) (kf := 11) rfl (Nat.le_of_ble_eq_true rfl) (by decide) (by decide) rfl fl_X11_55 (Or.inl rfl) rfl ?_
  refine r_iload_n dX11_shelve_11 rfl rfl ?_
  refine r_iload_n dX11_shelve_12 rfl rfl ?_
  refine r_iast (j := j) dX11_shelve_13 rfl (Nat.le_of_ble_eq_true rfl) rfl (by omega) (by decide) ?_
  refine r_aload_n dX11_shelve_14 rfl rfl ?_
  refine r_getR (q := 44) dX11_shelve_15 (ci := 11) (kf := 12) rfl (Nat.le_of_ble_eq_true rfl) (by decide) (by decide) rfl fl_X11_58 (Or.inl rfl) rfl ?_
  refine r_iload_n dX11_shelve_18 rfl rfl ?_
  refine r_iload dX11_shelve_19 rfl ?_
  refine r_iast (j := j) dX11_shelve_21 rfl (Nat.le_of_ble_eq_true rfl) rfl (by omega) (by decide) ?_
  refine r_iconst (v := 1) dX11_shelve_22 (by decide) ?_
  refine r_iret dX11_shelve_23 rfl (Nat.le_refl _) ?_
  (try dsimp only [Gs_M])
  exact ⟨rfl, rfl⟩
set_option maxRecDepth 20000 in
set_option maxHeartbeats 1000000 in
theorem s_X11_holdsNothing (g : pG) {S : pS} (hS : sOk S) (hI : InvR (vw S 1)) {ho h1 : Nat → Int32} (hF : SfR S ho h1) (j : Nat) (hj : j < 4) : MS g mX11_holdsNothing 2 0 0 [.ref 0, .int (nI j)] (S) (dI (bI (hoX (vw S 1) ho h1 j < 0)) S) := by
  obtain ⟨M0, rfl⟩ := sOk_gs hS
  obtain ⟨h8, hpl⟩ := hI.pl
  have hA := hF j hj
  dsimp only [Gs_M] at hA
  refine MS.of pn_X11 (Nat.le_of_ble_eq_true rfl) ?_
  refine r_aload_n dX11_holdsNothing_0 rfl rfl ?_
  refine r_getR (q := 42) dX11_holdsNothing_1 (ci := 11) (kf := 10) rfl (Nat.le_of_ble_eq_true rfl) (by decide) (by decide) rfl fl_X11_52 (Or.inl rfl) rfl ?_
  refine r_iload_n dX11_holdsNothing_4 rfl rfl ?_
  refine r_iald (j := j) dX11_holdsNothing_5 rfl (Nat.le_of_ble_eq_true rfl) rfl (by omega) (by decide) ?_
  refine r_if_eq (tgt := 32) dX11_holdsNothing_6 (by decide) (fun c_6 => ?_) (fun c_6 => ?_)
  · (try dsimp only [Gs_M] at c_6)
    refine r_iconst (v := 1) dX11_holdsNothing_32 (by decide) ?_
    refine r_goto (tgt := 37) dX11_holdsNothing_33 (by decide) ?_
    refine r_zret dX11_holdsNothing_37 rfl rfl (Nat.le_refl _) ?_
    (try dsimp only [Gs_M])
    refine ⟨congrArg (fun y => some (Value.int y)) (Eq.symm (bI_t ?_)), rfl⟩
    rcases hA with ⟨_, e⟩ | ⟨e, _⟩ | ⟨e, _⟩
    · unfold hoX
      rw [if_neg (fun z => absurd (e.symm.trans z.1) (by decide)), e]
      decide
    · exact absurd (c_6.symm.trans e) (by decide)
    · exact absurd (c_6.symm.trans e) (by decide)
  · (try dsimp only [Gs_M] at c_6)
    refine r_aload_n dX11_holdsNothing_9 rfl rfl ?_
    refine r_getR (q := 42) dX11_holdsNothing_10 (ci := 11) (kf := 10) rfl (Nat.le_of_ble_eq_true rfl) (by decide) (by decide) rfl fl_X11_52 (Or.inl rfl) rfl ?_
    refine r_iload_n dX11_holdsNothing_13 rfl rfl ?_
    refine r_iald (j := j) dX11_holdsNothing_14 rfl (Nat.le_of_ble_eq_true rfl) rfl (by omega) (by decide) ?_
    refine r_iconst (v := 1) dX11_holdsNothing_15 (by decide) ?_
    refine r_icmp_ne (tgt := 36) dX11_holdsNothing_16 (by decide) (fun c_16 => ?_) (fun c_16 => ?_)
    · (try dsimp only [Gs_M] at c_16)
      refine r_iconst (v := 0) dX11_holdsNothing_36 (by decide) ?_
      refine r_zret dX11_holdsNothing_37 rfl rfl (Nat.le_refl _) ?_
      (try dsimp only [Gs_M])
      refine ⟨congrArg (fun y => some (Value.int y)) (Eq.symm (bI_f ?_)), rfl⟩
      intro z
      rcases hA with ⟨e, _⟩ | ⟨e, _⟩ | ⟨_, ⟨d, hd, _, e⟩, _⟩
      · exact c_6 e
      · exact c_16 e
      · have e2 : hoX (vw (Gs M0) 1) ho h1 j = nI (10 + d) := by
          unfold hoX
          rw [e, ten_nn hd, if_neg (fun y => nI_ne0 (by omega) (by omega) y.1)]
        rw [e2] at z
        exact nI_pos (by omega) z
    · (try dsimp only [Gs_M] at c_16)
      refine r_aload_n dX11_holdsNothing_19 rfl rfl ?_
      refine r_aload_n dX11_holdsNothing_20 rfl rfl ?_
      refine r_getR (q := 43) dX11_holdsNothing_21 (ci := 11) (kf := 11) rfl (Nat.le_of_ble_eq_true rfl) (by decide) (by decide) rfl fl_X11_55 (Or.inl rfl) rfl ?_
      refine r_iload_n dX11_holdsNothing_24 rfl rfl ?_
      refine r_iald (j := j) dX11_holdsNothing_25 rfl (Nat.le_of_ble_eq_true rfl) rfl (by omega) (by decide) ?_
      refine r_callV_dI (ci := 11) dX11_holdsNothing_26 (s_X11_isPlayer g hS hI _) mf_X11_isPlayer mi_X11_isPlayer se_X11_X11_X11_isPlayer ml_X11_150 rfl rfl (Nat.le_of_ble_eq_true rfl) rfl (by decide) rfl (Nat.le_of_ble_eq_true rfl) ⟨(Nat.le_of_ble_eq_true rfl), (Nat.le_of_ble_eq_true rfl)⟩ ⟨(Nat.le_of_ble_eq_true rfl), (Nat.le_of_ble_eq_true rfl)⟩ ?_
      refine r_if_ne (tgt := 36) dX11_holdsNothing_29 (by decide) (fun c_29 => ?_) (fun c_29 => ?_)
      · have c_29 := bI_n c_29
        (try dsimp only [Gs_M] at c_29)
        refine r_iconst (v := 0) dX11_holdsNothing_36 (by decide) ?_
        refine r_zret dX11_holdsNothing_37 rfl rfl (Nat.le_refl _) ?_
        (try dsimp only [Gs_M])
        refine ⟨congrArg (fun y => some (Value.int y)) (Eq.symm (bI_f ?_)), rfl⟩
        intro z
        rcases hA with ⟨e, _⟩ | ⟨_, e, en⟩ | ⟨e, _⟩
        · exact c_6 e
        · unfold hoX at z
          rw [if_neg (fun y => y.2 (en ▸ c_29)), e] at z
          exact absurd z (by decide)
        · exact absurd (c_16.symm.trans e) (by decide)
      · have c_29 := bI_0 c_29
        (try dsimp only [Gs_M] at c_29)
        refine r_iconst (v := 1) dX11_holdsNothing_32 (by decide) ?_
        refine r_goto (tgt := 37) dX11_holdsNothing_33 (by decide) ?_
        refine r_zret dX11_holdsNothing_37 rfl rfl (Nat.le_refl _) ?_
        (try dsimp only [Gs_M])
        refine ⟨congrArg (fun y => some (Value.int y)) (Eq.symm (bI_t ?_)), rfl⟩
        rcases hA with ⟨e, _⟩ | ⟨_, e, en⟩ | ⟨e, _⟩
        · exact absurd e c_6
        · unfold hoX
          rw [if_pos ⟨e, fun y => c_29 (en ▸ y)⟩]
          decide
        · exact absurd (c_16.symm.trans e) (by decide)
set_option maxRecDepth 20000 in
set_option maxHeartbeats 1000000 in
theorem s_X11_isOfKind_0 (g : pG) (as_ : Int32) (S : pS) : MS g mX11_isOfKind 2 0 0 [.int (nI 0), .int as_] (S) (dI (bI (unA (nI 0) as_)) S) := by
  refine MS.of pn_X11 (Nat.le_of_ble_eq_true rfl) ?_
  refine r_iload_n dX11_isOfKind_0 rfl rfl ?_
  refine r_istore_n dX11_isOfKind_1 rfl (by decide) ?_
  refine r_iconst (v := 0) dX11_isOfKind_2 (by decide) ?_
  refine r_istore_n dX11_isOfKind_3 rfl (by decide) ?_
  refine PW.subL (L' := [some (.int (nI 0)), some (.int as_), some (.int (nI 0)), some (.int (nI 0))]) ?_ (by repeat' first | exact True.intro | refine And.intro rfl ?_)
  refine r_iload_n dX11_isOfKind_4 rfl rfl ?_
  refine r_bipush (v := 6) dX11_isOfKind_5 (by decide) ?_
  refine r_icmp_ge (tgt := 36) dX11_isOfKind_7 (by decide) (fun c => absurd c (by decide)) (fun _ => ?_)
  refine r_iload_n dX11_isOfKind_10 rfl rfl ?_
  refine r_callS_dI dX11_isOfKind_11 (s_X11_isKind g _ _) mf_X11_isKind mt_X11_isKind ml_X11_143 rfl rfl (Nat.le_of_ble_eq_true rfl) ⟨(Nat.le_of_ble_eq_true rfl), (Nat.le_of_ble_eq_true rfl)⟩ ⟨(Nat.le_of_ble_eq_true rfl), (Nat.le_of_ble_eq_true rfl)⟩ ?_
  refine r_if_eq (tgt := 36) dX11_isOfKind_14 (by decide) (fun c_14 => ?_) (fun c_14 => ?_)
  · have c_14 := bI_0 c_14
    (try dsimp only [Gs_M] at c_14)
    exact absurd (by decide) c_14
  · have c_14 := bI_n c_14
    (try dsimp only [Gs_M] at c_14)
    refine r_iload_n dX11_isOfKind_17 rfl rfl ?_
    refine r_iload_n dX11_isOfKind_18 rfl rfl ?_
    refine r_icmp_ne (tgt := 24) dX11_isOfKind_19 (by decide) (fun c_19 => ?_) (fun c_19 => ?_)
    · (try dsimp only [Gs_M] at c_19)
      have n0 := c_19
      refine r_gets (k0 := 2) (by decide) dX11_isOfKind_24 fl_X11_339 ?_
      refine r_iload_n dX11_isOfKind_27 rfl rfl ?_
      refine r_taldN (k0 := 2) (j := 0) (by decide) rfl (by show _ < 6; omega) dX11_isOfKind_28 ?_
      refine r_istore_n dX11_isOfKind_29 rfl (by decide) ?_
      refine r_iinc (v := 1) dX11_isOfKind_30 rfl (by decide) (by decide) ?_
      refine r_goto (tgt := 4) dX11_isOfKind_33 (by decide) ?_
      refine PW.subL (L' := [some (.int (nI 0)), some (.int as_), some (.int (-3)), some (.int (nI 1))]) ?_ (by repeat' first | exact True.intro | refine And.intro rfl ?_)
      refine r_iload_n dX11_isOfKind_4 rfl rfl ?_
      refine r_bipush (v := 6) dX11_isOfKind_5 (by decide) ?_
      refine r_icmp_ge (tgt := 36) dX11_isOfKind_7 (by decide) (fun c => absurd c (by decide)) (fun _ => ?_)
      refine r_iload_n dX11_isOfKind_10 rfl rfl ?_
      refine r_callS_dI dX11_isOfKind_11 (s_X11_isKind g _ _) mf_X11_isKind mt_X11_isKind ml_X11_143 rfl rfl (Nat.le_of_ble_eq_true rfl) ⟨(Nat.le_of_ble_eq_true rfl), (Nat.le_of_ble_eq_true rfl)⟩ ⟨(Nat.le_of_ble_eq_true rfl), (Nat.le_of_ble_eq_true rfl)⟩ ?_
      refine r_if_eq (tgt := 36) dX11_isOfKind_14 (by decide) (fun c_14 => ?_) (fun c_14 => ?_)
      · have c_14 := bI_0 c_14
        (try dsimp only [Gs_M] at c_14)
        refine r_iconst (v := 0) dX11_isOfKind_36 (by decide) ?_
        refine r_zret dX11_isOfKind_37 rfl rfl (Nat.le_refl _) ?_
        (try dsimp only [Gs_M])
        exact dI_f (fun z => z.elim (fun y => n0 y.symm) (fun z => z.elim n0 (fun z => z.elim (fun y => absurd y.2 (by decide)) (fun y => absurd y.2 (by decide)))))
      · have c_14 := bI_n c_14
        (try dsimp only [Gs_M] at c_14)
        exact absurd c_14 (by decide)
    · (try dsimp only [Gs_M] at c_19)
      refine r_iconst (v := 1) dX11_isOfKind_22 (by decide) ?_
      refine r_zret dX11_isOfKind_23 rfl rfl (Nat.le_refl _) ?_
      (try dsimp only [Gs_M])
      exact dI_t (Or.inl c_19.symm)
set_option maxRecDepth 20000 in
set_option maxHeartbeats 1000000 in
theorem s_X11_isOfKind_1 (g : pG) (as_ : Int32) (S : pS) : MS g mX11_isOfKind 2 0 0 [.int (nI 1), .int as_] (S) (dI (bI (unA (nI 1) as_)) S) := by
  refine MS.of pn_X11 (Nat.le_of_ble_eq_true rfl) ?_
  refine r_iload_n dX11_isOfKind_0 rfl rfl ?_
  refine r_istore_n dX11_isOfKind_1 rfl (by decide) ?_
  refine r_iconst (v := 0) dX11_isOfKind_2 (by decide) ?_
  refine r_istore_n dX11_isOfKind_3 rfl (by decide) ?_
  refine PW.subL (L' := [some (.int (nI 1)), some (.int as_), some (.int (nI 1)), some (.int (nI 0))]) ?_ (by repeat' first | exact True.intro | refine And.intro rfl ?_)
  refine r_iload_n dX11_isOfKind_4 rfl rfl ?_
  refine r_bipush (v := 6) dX11_isOfKind_5 (by decide) ?_
  refine r_icmp_ge (tgt := 36) dX11_isOfKind_7 (by decide) (fun c => absurd c (by decide)) (fun _ => ?_)
  refine r_iload_n dX11_isOfKind_10 rfl rfl ?_
  refine r_callS_dI dX11_isOfKind_11 (s_X11_isKind g _ _) mf_X11_isKind mt_X11_isKind ml_X11_143 rfl rfl (Nat.le_of_ble_eq_true rfl) ⟨(Nat.le_of_ble_eq_true rfl), (Nat.le_of_ble_eq_true rfl)⟩ ⟨(Nat.le_of_ble_eq_true rfl), (Nat.le_of_ble_eq_true rfl)⟩ ?_
  refine r_if_eq (tgt := 36) dX11_isOfKind_14 (by decide) (fun c_14 => ?_) (fun c_14 => ?_)
  · have c_14 := bI_0 c_14
    (try dsimp only [Gs_M] at c_14)
    exact absurd (by decide) c_14
  · have c_14 := bI_n c_14
    (try dsimp only [Gs_M] at c_14)
    refine r_iload_n dX11_isOfKind_17 rfl rfl ?_
    refine r_iload_n dX11_isOfKind_18 rfl rfl ?_
    refine r_icmp_ne (tgt := 24) dX11_isOfKind_19 (by decide) (fun c_19 => ?_) (fun c_19 => ?_)
    · (try dsimp only [Gs_M] at c_19)
      have n0 := c_19
      refine r_gets (k0 := 2) (by decide) dX11_isOfKind_24 fl_X11_339 ?_
      refine r_iload_n dX11_isOfKind_27 rfl rfl ?_
      refine r_taldN (k0 := 2) (j := 1) (by decide) rfl (by show _ < 6; omega) dX11_isOfKind_28 ?_
      refine r_istore_n dX11_isOfKind_29 rfl (by decide) ?_
      refine r_iinc (v := 1) dX11_isOfKind_30 rfl (by decide) (by decide) ?_
      refine r_goto (tgt := 4) dX11_isOfKind_33 (by decide) ?_
      refine PW.subL (L' := [some (.int (nI 1)), some (.int as_), some (.int (nI 0)), some (.int (nI 1))]) ?_ (by repeat' first | exact True.intro | refine And.intro rfl ?_)
      refine r_iload_n dX11_isOfKind_4 rfl rfl ?_
      refine r_bipush (v := 6) dX11_isOfKind_5 (by decide) ?_
      refine r_icmp_ge (tgt := 36) dX11_isOfKind_7 (by decide) (fun c => absurd c (by decide)) (fun _ => ?_)
      refine r_iload_n dX11_isOfKind_10 rfl rfl ?_
      refine r_callS_dI dX11_isOfKind_11 (s_X11_isKind g _ _) mf_X11_isKind mt_X11_isKind ml_X11_143 rfl rfl (Nat.le_of_ble_eq_true rfl) ⟨(Nat.le_of_ble_eq_true rfl), (Nat.le_of_ble_eq_true rfl)⟩ ⟨(Nat.le_of_ble_eq_true rfl), (Nat.le_of_ble_eq_true rfl)⟩ ?_
      refine r_if_eq (tgt := 36) dX11_isOfKind_14 (by decide) (fun c_14 => ?_) (fun c_14 => ?_)
      · have c_14 := bI_0 c_14
        (try dsimp only [Gs_M] at c_14)
        exact absurd (by decide) c_14
      · have c_14 := bI_n c_14
        (try dsimp only [Gs_M] at c_14)
        refine r_iload_n dX11_isOfKind_17 rfl rfl ?_
        refine r_iload_n dX11_isOfKind_18 rfl rfl ?_
        refine r_icmp_ne (tgt := 24) dX11_isOfKind_19 (by decide) (fun c_19 => ?_) (fun c_19 => ?_)
        · (try dsimp only [Gs_M] at c_19)
          have n1 := c_19
          refine r_gets (k0 := 2) (by decide) dX11_isOfKind_24 fl_X11_339 ?_
          refine r_iload_n dX11_isOfKind_27 rfl rfl ?_
          refine r_taldN (k0 := 2) (j := 0) (by decide) rfl (by show _ < 6; omega) dX11_isOfKind_28 ?_
          refine r_istore_n dX11_isOfKind_29 rfl (by decide) ?_
          refine r_iinc (v := 2) dX11_isOfKind_30 rfl (by decide) (by decide) ?_
          refine r_goto (tgt := 4) dX11_isOfKind_33 (by decide) ?_
          refine PW.subL (L' := [some (.int (nI 1)), some (.int as_), some (.int (-3)), some (.int (nI 2))]) ?_ (by repeat' first | exact True.intro | refine And.intro rfl ?_)
          refine r_iload_n dX11_isOfKind_4 rfl rfl ?_
          refine r_bipush (v := 6) dX11_isOfKind_5 (by decide) ?_
          refine r_icmp_ge (tgt := 36) dX11_isOfKind_7 (by decide) (fun c => absurd c (by decide)) (fun _ => ?_)
          refine r_iload_n dX11_isOfKind_10 rfl rfl ?_
          refine r_callS_dI dX11_isOfKind_11 (s_X11_isKind g _ _) mf_X11_isKind mt_X11_isKind ml_X11_143 rfl rfl (Nat.le_of_ble_eq_true rfl) ⟨(Nat.le_of_ble_eq_true rfl), (Nat.le_of_ble_eq_true rfl)⟩ ⟨(Nat.le_of_ble_eq_true rfl), (Nat.le_of_ble_eq_true rfl)⟩ ?_
          refine r_if_eq (tgt := 36) dX11_isOfKind_14 (by decide) (fun c_14 => ?_) (fun c_14 => ?_)
          · have c_14 := bI_0 c_14
            (try dsimp only [Gs_M] at c_14)
            refine r_iconst (v := 0) dX11_isOfKind_36 (by decide) ?_
            refine r_zret dX11_isOfKind_37 rfl rfl (Nat.le_refl _) ?_
            (try dsimp only [Gs_M])
            exact dI_f (fun z => z.elim (fun y => n1 y.symm) (fun z => z.elim n0 (fun z => z.elim (fun y => absurd y.2 (by decide)) (fun y => absurd y.2 (by decide)))))
          · have c_14 := bI_n c_14
            (try dsimp only [Gs_M] at c_14)
            exact absurd c_14 (by decide)
        · (try dsimp only [Gs_M] at c_19)
          refine r_iconst (v := 1) dX11_isOfKind_22 (by decide) ?_
          refine r_zret dX11_isOfKind_23 rfl rfl (Nat.le_refl _) ?_
          (try dsimp only [Gs_M])
          exact dI_t (Or.inl c_19.symm)
    · (try dsimp only [Gs_M] at c_19)
      refine r_iconst (v := 1) dX11_isOfKind_22 (by decide) ?_
      refine r_zret dX11_isOfKind_23 rfl rfl (Nat.le_refl _) ?_
      (try dsimp only [Gs_M])
      exact dI_t (Or.inr (Or.inl c_19))
set_option maxRecDepth 20000 in
set_option maxHeartbeats 1000000 in
theorem s_X11_isOfKind_2 (g : pG) (as_ : Int32) (S : pS) : MS g mX11_isOfKind 2 0 0 [.int (nI 2), .int as_] (S) (dI (bI (unA (nI 2) as_)) S) := by
  refine MS.of pn_X11 (Nat.le_of_ble_eq_true rfl) ?_
  refine r_iload_n dX11_isOfKind_0 rfl rfl ?_
  refine r_istore_n dX11_isOfKind_1 rfl (by decide) ?_
  refine r_iconst (v := 0) dX11_isOfKind_2 (by decide) ?_
  refine r_istore_n dX11_isOfKind_3 rfl (by decide) ?_
  refine PW.subL (L' := [some (.int (nI 2)), some (.int as_), some (.int (nI 2)), some (.int (nI 0))]) ?_ (by repeat' first | exact True.intro | refine And.intro rfl ?_)
  refine r_iload_n dX11_isOfKind_4 rfl rfl ?_
  refine r_bipush (v := 6) dX11_isOfKind_5 (by decide) ?_
  refine r_icmp_ge (tgt := 36) dX11_isOfKind_7 (by decide) (fun c => absurd c (by decide)) (fun _ => ?_)
  refine r_iload_n dX11_isOfKind_10 rfl rfl ?_
  refine r_callS_dI dX11_isOfKind_11 (s_X11_isKind g _ _) mf_X11_isKind mt_X11_isKind ml_X11_143 rfl rfl (Nat.le_of_ble_eq_true rfl) ⟨(Nat.le_of_ble_eq_true rfl), (Nat.le_of_ble_eq_true rfl)⟩ ⟨(Nat.le_of_ble_eq_true rfl), (Nat.le_of_ble_eq_true rfl)⟩ ?_
  refine r_if_eq (tgt := 36) dX11_isOfKind_14 (by decide) (fun c_14 => ?_) (fun c_14 => ?_)
  · have c_14 := bI_0 c_14
    (try dsimp only [Gs_M] at c_14)
    exact absurd (by decide) c_14
  · have c_14 := bI_n c_14
    (try dsimp only [Gs_M] at c_14)
    refine r_iload_n dX11_isOfKind_17 rfl rfl ?_
    refine r_iload_n dX11_isOfKind_18 rfl rfl ?_
    refine r_icmp_ne (tgt := 24) dX11_isOfKind_19 (by decide) (fun c_19 => ?_) (fun c_19 => ?_)
    · (try dsimp only [Gs_M] at c_19)
      have n0 := c_19
      refine r_gets (k0 := 2) (by decide) dX11_isOfKind_24 fl_X11_339 ?_
      refine r_iload_n dX11_isOfKind_27 rfl rfl ?_
      refine r_taldN (k0 := 2) (j := 2) (by decide) rfl (by show _ < 6; omega) dX11_isOfKind_28 ?_
      refine r_istore_n dX11_isOfKind_29 rfl (by decide) ?_
      refine r_iinc (v := 1) dX11_isOfKind_30 rfl (by decide) (by decide) ?_
      refine r_goto (tgt := 4) dX11_isOfKind_33 (by decide) ?_
      refine PW.subL (L' := [some (.int (nI 2)), some (.int as_), some (.int (nI 0)), some (.int (nI 1))]) ?_ (by repeat' first | exact True.intro | refine And.intro rfl ?_)
      refine r_iload_n dX11_isOfKind_4 rfl rfl ?_
      refine r_bipush (v := 6) dX11_isOfKind_5 (by decide) ?_
      refine r_icmp_ge (tgt := 36) dX11_isOfKind_7 (by decide) (fun c => absurd c (by decide)) (fun _ => ?_)
      refine r_iload_n dX11_isOfKind_10 rfl rfl ?_
      refine r_callS_dI dX11_isOfKind_11 (s_X11_isKind g _ _) mf_X11_isKind mt_X11_isKind ml_X11_143 rfl rfl (Nat.le_of_ble_eq_true rfl) ⟨(Nat.le_of_ble_eq_true rfl), (Nat.le_of_ble_eq_true rfl)⟩ ⟨(Nat.le_of_ble_eq_true rfl), (Nat.le_of_ble_eq_true rfl)⟩ ?_
      refine r_if_eq (tgt := 36) dX11_isOfKind_14 (by decide) (fun c_14 => ?_) (fun c_14 => ?_)
      · have c_14 := bI_0 c_14
        (try dsimp only [Gs_M] at c_14)
        exact absurd (by decide) c_14
      · have c_14 := bI_n c_14
        (try dsimp only [Gs_M] at c_14)
        refine r_iload_n dX11_isOfKind_17 rfl rfl ?_
        refine r_iload_n dX11_isOfKind_18 rfl rfl ?_
        refine r_icmp_ne (tgt := 24) dX11_isOfKind_19 (by decide) (fun c_19 => ?_) (fun c_19 => ?_)
        · (try dsimp only [Gs_M] at c_19)
          have n1 := c_19
          refine r_gets (k0 := 2) (by decide) dX11_isOfKind_24 fl_X11_339 ?_
          refine r_iload_n dX11_isOfKind_27 rfl rfl ?_
          refine r_taldN (k0 := 2) (j := 0) (by decide) rfl (by show _ < 6; omega) dX11_isOfKind_28 ?_
          refine r_istore_n dX11_isOfKind_29 rfl (by decide) ?_
          refine r_iinc (v := 2) dX11_isOfKind_30 rfl (by decide) (by decide) ?_
          refine r_goto (tgt := 4) dX11_isOfKind_33 (by decide) ?_
          refine PW.subL (L' := [some (.int (nI 2)), some (.int as_), some (.int (-3)), some (.int (nI 2))]) ?_ (by repeat' first | exact True.intro | refine And.intro rfl ?_)
          refine r_iload_n dX11_isOfKind_4 rfl rfl ?_
          refine r_bipush (v := 6) dX11_isOfKind_5 (by decide) ?_
          refine r_icmp_ge (tgt := 36) dX11_isOfKind_7 (by decide) (fun c => absurd c (by decide)) (fun _ => ?_)
          refine r_iload_n dX11_isOfKind_10 rfl rfl ?_
          refine r_callS_dI dX11_isOfKind_11 (s_X11_isKind g _ _) mf_X11_isKind mt_X11_isKind ml_X11_143 rfl rfl (Nat.le_of_ble_eq_true rfl) ⟨(Nat.le_of_ble_eq_true rfl), (Nat.le_of_ble_eq_true rfl)⟩ ⟨(Nat.le_of_ble_eq_true rfl), (Nat.le_of_ble_eq_true rfl)⟩ ?_
          refine r_if_eq (tgt := 36) dX11_isOfKind_14 (by decide) (fun c_14 => ?_) (fun c_14 => ?_)
          · have c_14 := bI_0 c_14
            (try dsimp only [Gs_M] at c_14)
            refine r_iconst (v := 0) dX11_isOfKind_36 (by decide) ?_
            refine r_zret dX11_isOfKind_37 rfl rfl (Nat.le_refl _) ?_
            (try dsimp only [Gs_M])
            exact dI_f (fun z => z.elim (fun y => n1 y.symm) (fun z => z.elim n0 (fun z => z.elim (fun y => absurd y.2 (by decide)) (fun y => absurd y.2 (by decide)))))
          · have c_14 := bI_n c_14
            (try dsimp only [Gs_M] at c_14)
            exact absurd c_14 (by decide)
        · (try dsimp only [Gs_M] at c_19)
          refine r_iconst (v := 1) dX11_isOfKind_22 (by decide) ?_
          refine r_zret dX11_isOfKind_23 rfl rfl (Nat.le_refl _) ?_
          (try dsimp only [Gs_M])
          exact dI_t (Or.inl c_19.symm)
    · (try dsimp only [Gs_M] at c_19)
      refine r_iconst (v := 1) dX11_isOfKind_22 (by decide) ?_
      refine r_zret dX11_isOfKind_23 rfl rfl (Nat.le_refl _) ?_
      (try dsimp only [Gs_M])
      exact dI_t (Or.inr (Or.inl c_19))
set_option maxRecDepth 20000 in
set_option maxHeartbeats 1000000 in
theorem s_X11_isOfKind_3 (g : pG) (as_ : Int32) (S : pS) : MS g mX11_isOfKind 2 0 0 [.int (nI 3), .int as_] (S) (dI (bI (unA (nI 3) as_)) S) := by
  refine MS.of pn_X11 (Nat.le_of_ble_eq_true rfl) ?_
  refine r_iload_n dX11_isOfKind_0 rfl rfl ?_
  refine r_istore_n dX11_isOfKind_1 rfl (by decide) ?_
  refine r_iconst (v := 0) dX11_isOfKind_2 (by decide) ?_
  refine r_istore_n dX11_isOfKind_3 rfl (by decide) ?_
  refine PW.subL (L' := [some (.int (nI 3)), some (.int as_), some (.int (nI 3)), some (.int (nI 0))]) ?_ (by repeat' first | exact True.intro | refine And.intro rfl ?_)
  refine r_iload_n dX11_isOfKind_4 rfl rfl ?_
  refine r_bipush (v := 6) dX11_isOfKind_5 (by decide) ?_
  refine r_icmp_ge (tgt := 36) dX11_isOfKind_7 (by decide) (fun c => absurd c (by decide)) (fun _ => ?_)
  refine r_iload_n dX11_isOfKind_10 rfl rfl ?_
  refine r_callS_dI dX11_isOfKind_11 (s_X11_isKind g _ _) mf_X11_isKind mt_X11_isKind ml_X11_143 rfl rfl (Nat.le_of_ble_eq_true rfl) ⟨(Nat.le_of_ble_eq_true rfl), (Nat.le_of_ble_eq_true rfl)⟩ ⟨(Nat.le_of_ble_eq_true rfl), (Nat.le_of_ble_eq_true rfl)⟩ ?_
  refine r_if_eq (tgt := 36) dX11_isOfKind_14 (by decide) (fun c_14 => ?_) (fun c_14 => ?_)
  · have c_14 := bI_0 c_14
    (try dsimp only [Gs_M] at c_14)
    exact absurd (by decide) c_14
  · have c_14 := bI_n c_14
    (try dsimp only [Gs_M] at c_14)
    refine r_iload_n dX11_isOfKind_17 rfl rfl ?_
    refine r_iload_n dX11_isOfKind_18 rfl rfl ?_
    refine r_icmp_ne (tgt := 24) dX11_isOfKind_19 (by decide) (fun c_19 => ?_) (fun c_19 => ?_)
    · (try dsimp only [Gs_M] at c_19)
      have n0 := c_19
      refine r_gets (k0 := 2) (by decide) dX11_isOfKind_24 fl_X11_339 ?_
      refine r_iload_n dX11_isOfKind_27 rfl rfl ?_
      refine r_taldN (k0 := 2) (j := 3) (by decide) rfl (by show _ < 6; omega) dX11_isOfKind_28 ?_
      refine r_istore_n dX11_isOfKind_29 rfl (by decide) ?_
      refine r_iinc (v := 1) dX11_isOfKind_30 rfl (by decide) (by decide) ?_
      refine r_goto (tgt := 4) dX11_isOfKind_33 (by decide) ?_
      refine PW.subL (L' := [some (.int (nI 3)), some (.int as_), some (.int (nI 1)), some (.int (nI 1))]) ?_ (by repeat' first | exact True.intro | refine And.intro rfl ?_)
      refine r_iload_n dX11_isOfKind_4 rfl rfl ?_
      refine r_bipush (v := 6) dX11_isOfKind_5 (by decide) ?_
      refine r_icmp_ge (tgt := 36) dX11_isOfKind_7 (by decide) (fun c => absurd c (by decide)) (fun _ => ?_)
      refine r_iload_n dX11_isOfKind_10 rfl rfl ?_
      refine r_callS_dI dX11_isOfKind_11 (s_X11_isKind g _ _) mf_X11_isKind mt_X11_isKind ml_X11_143 rfl rfl (Nat.le_of_ble_eq_true rfl) ⟨(Nat.le_of_ble_eq_true rfl), (Nat.le_of_ble_eq_true rfl)⟩ ⟨(Nat.le_of_ble_eq_true rfl), (Nat.le_of_ble_eq_true rfl)⟩ ?_
      refine r_if_eq (tgt := 36) dX11_isOfKind_14 (by decide) (fun c_14 => ?_) (fun c_14 => ?_)
      · have c_14 := bI_0 c_14
        (try dsimp only [Gs_M] at c_14)
        exact absurd (by decide) c_14
      · have c_14 := bI_n c_14
        (try dsimp only [Gs_M] at c_14)
        refine r_iload_n dX11_isOfKind_17 rfl rfl ?_
        refine r_iload_n dX11_isOfKind_18 rfl rfl ?_
        refine r_icmp_ne (tgt := 24) dX11_isOfKind_19 (by decide) (fun c_19 => ?_) (fun c_19 => ?_)
        · (try dsimp only [Gs_M] at c_19)
          have n1 := c_19
          refine r_gets (k0 := 2) (by decide) dX11_isOfKind_24 fl_X11_339 ?_
          refine r_iload_n dX11_isOfKind_27 rfl rfl ?_
          refine r_taldN (k0 := 2) (j := 1) (by decide) rfl (by show _ < 6; omega) dX11_isOfKind_28 ?_
          refine r_istore_n dX11_isOfKind_29 rfl (by decide) ?_
          refine r_iinc (v := 2) dX11_isOfKind_30 rfl (by decide) (by decide) ?_
          refine r_goto (tgt := 4) dX11_isOfKind_33 (by decide) ?_
          refine PW.subL (L' := [some (.int (nI 3)), some (.int as_), some (.int (nI 0)), some (.int (nI 2))]) ?_ (by repeat' first | exact True.intro | refine And.intro rfl ?_)
          refine r_iload_n dX11_isOfKind_4 rfl rfl ?_
          refine r_bipush (v := 6) dX11_isOfKind_5 (by decide) ?_
          refine r_icmp_ge (tgt := 36) dX11_isOfKind_7 (by decide) (fun c => absurd c (by decide)) (fun _ => ?_)
          refine r_iload_n dX11_isOfKind_10 rfl rfl ?_
          refine r_callS_dI dX11_isOfKind_11 (s_X11_isKind g _ _) mf_X11_isKind mt_X11_isKind ml_X11_143 rfl rfl (Nat.le_of_ble_eq_true rfl) ⟨(Nat.le_of_ble_eq_true rfl), (Nat.le_of_ble_eq_true rfl)⟩ ⟨(Nat.le_of_ble_eq_true rfl), (Nat.le_of_ble_eq_true rfl)⟩ ?_
          refine r_if_eq (tgt := 36) dX11_isOfKind_14 (by decide) (fun c_14 => ?_) (fun c_14 => ?_)
          · have c_14 := bI_0 c_14
            (try dsimp only [Gs_M] at c_14)
            exact absurd (by decide) c_14
          · have c_14 := bI_n c_14
            (try dsimp only [Gs_M] at c_14)
            refine r_iload_n dX11_isOfKind_17 rfl rfl ?_
            refine r_iload_n dX11_isOfKind_18 rfl rfl ?_
            refine r_icmp_ne (tgt := 24) dX11_isOfKind_19 (by decide) (fun c_19 => ?_) (fun c_19 => ?_)
            · (try dsimp only [Gs_M] at c_19)
              have n2 := c_19
              refine r_gets (k0 := 2) (by decide) dX11_isOfKind_24 fl_X11_339 ?_
              refine r_iload_n dX11_isOfKind_27 rfl rfl ?_
              refine r_taldN (k0 := 2) (j := 0) (by decide) rfl (by show _ < 6; omega) dX11_isOfKind_28 ?_
              refine r_istore_n dX11_isOfKind_29 rfl (by decide) ?_
              refine r_iinc (v := 3) dX11_isOfKind_30 rfl (by decide) (by decide) ?_
              refine r_goto (tgt := 4) dX11_isOfKind_33 (by decide) ?_
              refine PW.subL (L' := [some (.int (nI 3)), some (.int as_), some (.int (-3)), some (.int (nI 3))]) ?_ (by repeat' first | exact True.intro | refine And.intro rfl ?_)
              refine r_iload_n dX11_isOfKind_4 rfl rfl ?_
              refine r_bipush (v := 6) dX11_isOfKind_5 (by decide) ?_
              refine r_icmp_ge (tgt := 36) dX11_isOfKind_7 (by decide) (fun c => absurd c (by decide)) (fun _ => ?_)
              refine r_iload_n dX11_isOfKind_10 rfl rfl ?_
              refine r_callS_dI dX11_isOfKind_11 (s_X11_isKind g _ _) mf_X11_isKind mt_X11_isKind ml_X11_143 rfl rfl (Nat.le_of_ble_eq_true rfl) ⟨(Nat.le_of_ble_eq_true rfl), (Nat.le_of_ble_eq_true rfl)⟩ ⟨(Nat.le_of_ble_eq_true rfl), (Nat.le_of_ble_eq_true rfl)⟩ ?_
              refine r_if_eq (tgt := 36) dX11_isOfKind_14 (by decide) (fun c_14 => ?_) (fun c_14 => ?_)
              · have c_14 := bI_0 c_14
                (try dsimp only [Gs_M] at c_14)
                refine r_iconst (v := 0) dX11_isOfKind_36 (by decide) ?_
                refine r_zret dX11_isOfKind_37 rfl rfl (Nat.le_refl _) ?_
                (try dsimp only [Gs_M])
                exact dI_f (fun z => z.elim (fun y => n2 y.symm) (fun z => z.elim n0 (fun z => z.elim (fun y => n1 y.1.symm) (fun y => absurd y.2 (by decide)))))
              · have c_14 := bI_n c_14
                (try dsimp only [Gs_M] at c_14)
                exact absurd c_14 (by decide)
            · (try dsimp only [Gs_M] at c_19)
              refine r_iconst (v := 1) dX11_isOfKind_22 (by decide) ?_
              refine r_zret dX11_isOfKind_23 rfl rfl (Nat.le_refl _) ?_
              (try dsimp only [Gs_M])
              exact dI_t (Or.inl c_19.symm)
        · (try dsimp only [Gs_M] at c_19)
          refine r_iconst (v := 1) dX11_isOfKind_22 (by decide) ?_
          refine r_zret dX11_isOfKind_23 rfl rfl (Nat.le_refl _) ?_
          (try dsimp only [Gs_M])
          exact dI_t (Or.inr (Or.inr (Or.inl ⟨c_19.symm, rfl⟩)))
    · (try dsimp only [Gs_M] at c_19)
      refine r_iconst (v := 1) dX11_isOfKind_22 (by decide) ?_
      refine r_zret dX11_isOfKind_23 rfl rfl (Nat.le_refl _) ?_
      (try dsimp only [Gs_M])
      exact dI_t (Or.inr (Or.inl c_19))
set_option maxRecDepth 20000 in
set_option maxHeartbeats 1000000 in
theorem s_X11_isOfKind_4 (g : pG) (as_ : Int32) (S : pS) : MS g mX11_isOfKind 2 0 0 [.int (nI 4), .int as_] (S) (dI (bI (unA (nI 4) as_)) S) := by
  refine MS.of pn_X11 (Nat.le_of_ble_eq_true rfl) ?_
  refine r_iload_n dX11_isOfKind_0 rfl rfl ?_
  refine r_istore_n dX11_isOfKind_1 rfl (by decide) ?_
  refine r_iconst (v := 0) dX11_isOfKind_2 (by decide) ?_
  refine r_istore_n dX11_isOfKind_3 rfl (by decide) ?_
  refine PW.subL (L' := [some (.int (nI 4)), some (.int as_), some (.int (nI 4)), some (.int (nI 0))]) ?_ (by repeat' first | exact True.intro | refine And.intro rfl ?_)
  refine r_iload_n dX11_isOfKind_4 rfl rfl ?_
  refine r_bipush (v := 6) dX11_isOfKind_5 (by decide) ?_
  refine r_icmp_ge (tgt := 36) dX11_isOfKind_7 (by decide) (fun c => absurd c (by decide)) (fun _ => ?_)
  refine r_iload_n dX11_isOfKind_10 rfl rfl ?_
  refine r_callS_dI dX11_isOfKind_11 (s_X11_isKind g _ _) mf_X11_isKind mt_X11_isKind ml_X11_143 rfl rfl (Nat.le_of_ble_eq_true rfl) ⟨(Nat.le_of_ble_eq_true rfl), (Nat.le_of_ble_eq_true rfl)⟩ ⟨(Nat.le_of_ble_eq_true rfl), (Nat.le_of_ble_eq_true rfl)⟩ ?_
  refine r_if_eq (tgt := 36) dX11_isOfKind_14 (by decide) (fun c_14 => ?_) (fun c_14 => ?_)
  · have c_14 := bI_0 c_14
    (try dsimp only [Gs_M] at c_14)
    exact absurd (by decide) c_14
  · have c_14 := bI_n c_14
    (try dsimp only [Gs_M] at c_14)
    refine r_iload_n dX11_isOfKind_17 rfl rfl ?_
    refine r_iload_n dX11_isOfKind_18 rfl rfl ?_
    refine r_icmp_ne (tgt := 24) dX11_isOfKind_19 (by decide) (fun c_19 => ?_) (fun c_19 => ?_)
    · (try dsimp only [Gs_M] at c_19)
      have n0 := c_19
      refine r_gets (k0 := 2) (by decide) dX11_isOfKind_24 fl_X11_339 ?_
      refine r_iload_n dX11_isOfKind_27 rfl rfl ?_
      refine r_taldN (k0 := 2) (j := 4) (by decide) rfl (by show _ < 6; omega) dX11_isOfKind_28 ?_
      refine r_istore_n dX11_isOfKind_29 rfl (by decide) ?_
      refine r_iinc (v := 1) dX11_isOfKind_30 rfl (by decide) (by decide) ?_
      refine r_goto (tgt := 4) dX11_isOfKind_33 (by decide) ?_
      refine PW.subL (L' := [some (.int (nI 4)), some (.int as_), some (.int (nI 2)), some (.int (nI 1))]) ?_ (by repeat' first | exact True.intro | refine And.intro rfl ?_)
      refine r_iload_n dX11_isOfKind_4 rfl rfl ?_
      refine r_bipush (v := 6) dX11_isOfKind_5 (by decide) ?_
      refine r_icmp_ge (tgt := 36) dX11_isOfKind_7 (by decide) (fun c => absurd c (by decide)) (fun _ => ?_)
      refine r_iload_n dX11_isOfKind_10 rfl rfl ?_
      refine r_callS_dI dX11_isOfKind_11 (s_X11_isKind g _ _) mf_X11_isKind mt_X11_isKind ml_X11_143 rfl rfl (Nat.le_of_ble_eq_true rfl) ⟨(Nat.le_of_ble_eq_true rfl), (Nat.le_of_ble_eq_true rfl)⟩ ⟨(Nat.le_of_ble_eq_true rfl), (Nat.le_of_ble_eq_true rfl)⟩ ?_
      refine r_if_eq (tgt := 36) dX11_isOfKind_14 (by decide) (fun c_14 => ?_) (fun c_14 => ?_)
      · have c_14 := bI_0 c_14
        (try dsimp only [Gs_M] at c_14)
        exact absurd (by decide) c_14
      · have c_14 := bI_n c_14
        (try dsimp only [Gs_M] at c_14)
        refine r_iload_n dX11_isOfKind_17 rfl rfl ?_
        refine r_iload_n dX11_isOfKind_18 rfl rfl ?_
        refine r_icmp_ne (tgt := 24) dX11_isOfKind_19 (by decide) (fun c_19 => ?_) (fun c_19 => ?_)
        · (try dsimp only [Gs_M] at c_19)
          have n1 := c_19
          refine r_gets (k0 := 2) (by decide) dX11_isOfKind_24 fl_X11_339 ?_
          refine r_iload_n dX11_isOfKind_27 rfl rfl ?_
          refine r_taldN (k0 := 2) (j := 2) (by decide) rfl (by show _ < 6; omega) dX11_isOfKind_28 ?_
          refine r_istore_n dX11_isOfKind_29 rfl (by decide) ?_
          refine r_iinc (v := 2) dX11_isOfKind_30 rfl (by decide) (by decide) ?_
          refine r_goto (tgt := 4) dX11_isOfKind_33 (by decide) ?_
          refine PW.subL (L' := [some (.int (nI 4)), some (.int as_), some (.int (nI 0)), some (.int (nI 2))]) ?_ (by repeat' first | exact True.intro | refine And.intro rfl ?_)
          refine r_iload_n dX11_isOfKind_4 rfl rfl ?_
          refine r_bipush (v := 6) dX11_isOfKind_5 (by decide) ?_
          refine r_icmp_ge (tgt := 36) dX11_isOfKind_7 (by decide) (fun c => absurd c (by decide)) (fun _ => ?_)
          refine r_iload_n dX11_isOfKind_10 rfl rfl ?_
          refine r_callS_dI dX11_isOfKind_11 (s_X11_isKind g _ _) mf_X11_isKind mt_X11_isKind ml_X11_143 rfl rfl (Nat.le_of_ble_eq_true rfl) ⟨(Nat.le_of_ble_eq_true rfl), (Nat.le_of_ble_eq_true rfl)⟩ ⟨(Nat.le_of_ble_eq_true rfl), (Nat.le_of_ble_eq_true rfl)⟩ ?_
          refine r_if_eq (tgt := 36) dX11_isOfKind_14 (by decide) (fun c_14 => ?_) (fun c_14 => ?_)
          · have c_14 := bI_0 c_14
            (try dsimp only [Gs_M] at c_14)
            exact absurd (by decide) c_14
          · have c_14 := bI_n c_14
            (try dsimp only [Gs_M] at c_14)
            refine r_iload_n dX11_isOfKind_17 rfl rfl ?_
            refine r_iload_n dX11_isOfKind_18 rfl rfl ?_
            refine r_icmp_ne (tgt := 24) dX11_isOfKind_19 (by decide) (fun c_19 => ?_) (fun c_19 => ?_)
            · (try dsimp only [Gs_M] at c_19)
              have n2 := c_19
              refine r_gets (k0 := 2) (by decide) dX11_isOfKind_24 fl_X11_339 ?_
              refine r_iload_n dX11_isOfKind_27 rfl rfl ?_
              refine r_taldN (k0 := 2) (j := 0) (by decide) rfl (by show _ < 6; omega) dX11_isOfKind_28 ?_
              refine r_istore_n dX11_isOfKind_29 rfl (by decide) ?_
              refine r_iinc (v := 3) dX11_isOfKind_30 rfl (by decide) (by decide) ?_
              refine r_goto (tgt := 4) dX11_isOfKind_33 (by decide) ?_
              refine PW.subL (L' := [some (.int (nI 4)), some (.int as_), some (.int (-3)), some (.int (nI 3))]) ?_ (by repeat' first | exact True.intro | refine And.intro rfl ?_)
              refine r_iload_n dX11_isOfKind_4 rfl rfl ?_
              refine r_bipush (v := 6) dX11_isOfKind_5 (by decide) ?_
              refine r_icmp_ge (tgt := 36) dX11_isOfKind_7 (by decide) (fun c => absurd c (by decide)) (fun _ => ?_)
              refine r_iload_n dX11_isOfKind_10 rfl rfl ?_
              refine r_callS_dI dX11_isOfKind_11 (s_X11_isKind g _ _) mf_X11_isKind mt_X11_isKind ml_X11_143 rfl rfl (Nat.le_of_ble_eq_true rfl) ⟨(Nat.le_of_ble_eq_true rfl), (Nat.le_of_ble_eq_true rfl)⟩ ⟨(Nat.le_of_ble_eq_true rfl), (Nat.le_of_ble_eq_true rfl)⟩ ?_
              refine r_if_eq (tgt := 36) dX11_isOfKind_14 (by decide) (fun c_14 => ?_) (fun c_14 => ?_)
              · have c_14 := bI_0 c_14
                (try dsimp only [Gs_M] at c_14)
                refine r_iconst (v := 0) dX11_isOfKind_36 (by decide) ?_
                refine r_zret dX11_isOfKind_37 rfl rfl (Nat.le_refl _) ?_
                (try dsimp only [Gs_M])
                exact dI_f (fun z => z.elim (fun y => n2 y.symm) (fun z => z.elim n0 (fun z => z.elim (fun y => absurd y.2 (by decide)) (fun y => n1 y.1.symm))))
              · have c_14 := bI_n c_14
                (try dsimp only [Gs_M] at c_14)
                exact absurd c_14 (by decide)
            · (try dsimp only [Gs_M] at c_19)
              refine r_iconst (v := 1) dX11_isOfKind_22 (by decide) ?_
              refine r_zret dX11_isOfKind_23 rfl rfl (Nat.le_refl _) ?_
              (try dsimp only [Gs_M])
              exact dI_t (Or.inl c_19.symm)
        · (try dsimp only [Gs_M] at c_19)
          refine r_iconst (v := 1) dX11_isOfKind_22 (by decide) ?_
          refine r_zret dX11_isOfKind_23 rfl rfl (Nat.le_refl _) ?_
          (try dsimp only [Gs_M])
          exact dI_t (Or.inr (Or.inr (Or.inr ⟨c_19.symm, rfl⟩)))
    · (try dsimp only [Gs_M] at c_19)
      refine r_iconst (v := 1) dX11_isOfKind_22 (by decide) ?_
      refine r_zret dX11_isOfKind_23 rfl rfl (Nat.le_refl _) ?_
      (try dsimp only [Gs_M])
      exact dI_t (Or.inr (Or.inl c_19))
set_option maxRecDepth 20000 in
set_option maxHeartbeats 1000000 in
theorem s_X11_isOfKind_5 (g : pG) (as_ : Int32) (S : pS) : MS g mX11_isOfKind 2 0 0 [.int (nI 5), .int as_] (S) (dI (bI (unA (nI 5) as_)) S) := by
  refine MS.of pn_X11 (Nat.le_of_ble_eq_true rfl) ?_
  refine r_iload_n dX11_isOfKind_0 rfl rfl ?_
  refine r_istore_n dX11_isOfKind_1 rfl (by decide) ?_
  refine r_iconst (v := 0) dX11_isOfKind_2 (by decide) ?_
  refine r_istore_n dX11_isOfKind_3 rfl (by decide) ?_
  refine PW.subL (L' := [some (.int (nI 5)), some (.int as_), some (.int (nI 5)), some (.int (nI 0))]) ?_ (by repeat' first | exact True.intro | refine And.intro rfl ?_)
  refine r_iload_n dX11_isOfKind_4 rfl rfl ?_
  refine r_bipush (v := 6) dX11_isOfKind_5 (by decide) ?_
  refine r_icmp_ge (tgt := 36) dX11_isOfKind_7 (by decide) (fun c => absurd c (by decide)) (fun _ => ?_)
  refine r_iload_n dX11_isOfKind_10 rfl rfl ?_
  refine r_callS_dI dX11_isOfKind_11 (s_X11_isKind g _ _) mf_X11_isKind mt_X11_isKind ml_X11_143 rfl rfl (Nat.le_of_ble_eq_true rfl) ⟨(Nat.le_of_ble_eq_true rfl), (Nat.le_of_ble_eq_true rfl)⟩ ⟨(Nat.le_of_ble_eq_true rfl), (Nat.le_of_ble_eq_true rfl)⟩ ?_
  refine r_if_eq (tgt := 36) dX11_isOfKind_14 (by decide) (fun c_14 => ?_) (fun c_14 => ?_)
  · have c_14 := bI_0 c_14
    (try dsimp only [Gs_M] at c_14)
    exact absurd (by decide) c_14
  · have c_14 := bI_n c_14
    (try dsimp only [Gs_M] at c_14)
    refine r_iload_n dX11_isOfKind_17 rfl rfl ?_
    refine r_iload_n dX11_isOfKind_18 rfl rfl ?_
    refine r_icmp_ne (tgt := 24) dX11_isOfKind_19 (by decide) (fun c_19 => ?_) (fun c_19 => ?_)
    · (try dsimp only [Gs_M] at c_19)
      have n0 := c_19
      refine r_gets (k0 := 2) (by decide) dX11_isOfKind_24 fl_X11_339 ?_
      refine r_iload_n dX11_isOfKind_27 rfl rfl ?_
      refine r_taldN (k0 := 2) (j := 5) (by decide) rfl (by show _ < 6; omega) dX11_isOfKind_28 ?_
      refine r_istore_n dX11_isOfKind_29 rfl (by decide) ?_
      refine r_iinc (v := 1) dX11_isOfKind_30 rfl (by decide) (by decide) ?_
      refine r_goto (tgt := 4) dX11_isOfKind_33 (by decide) ?_
      refine PW.subL (L' := [some (.int (nI 5)), some (.int as_), some (.int (nI 0)), some (.int (nI 1))]) ?_ (by repeat' first | exact True.intro | refine And.intro rfl ?_)
      refine r_iload_n dX11_isOfKind_4 rfl rfl ?_
      refine r_bipush (v := 6) dX11_isOfKind_5 (by decide) ?_
      refine r_icmp_ge (tgt := 36) dX11_isOfKind_7 (by decide) (fun c => absurd c (by decide)) (fun _ => ?_)
      refine r_iload_n dX11_isOfKind_10 rfl rfl ?_
      refine r_callS_dI dX11_isOfKind_11 (s_X11_isKind g _ _) mf_X11_isKind mt_X11_isKind ml_X11_143 rfl rfl (Nat.le_of_ble_eq_true rfl) ⟨(Nat.le_of_ble_eq_true rfl), (Nat.le_of_ble_eq_true rfl)⟩ ⟨(Nat.le_of_ble_eq_true rfl), (Nat.le_of_ble_eq_true rfl)⟩ ?_
      refine r_if_eq (tgt := 36) dX11_isOfKind_14 (by decide) (fun c_14 => ?_) (fun c_14 => ?_)
      · have c_14 := bI_0 c_14
        (try dsimp only [Gs_M] at c_14)
        exact absurd (by decide) c_14
      · have c_14 := bI_n c_14
        (try dsimp only [Gs_M] at c_14)
        refine r_iload_n dX11_isOfKind_17 rfl rfl ?_
        refine r_iload_n dX11_isOfKind_18 rfl rfl ?_
        refine r_icmp_ne (tgt := 24) dX11_isOfKind_19 (by decide) (fun c_19 => ?_) (fun c_19 => ?_)
        · (try dsimp only [Gs_M] at c_19)
          have n1 := c_19
          refine r_gets (k0 := 2) (by decide) dX11_isOfKind_24 fl_X11_339 ?_
          refine r_iload_n dX11_isOfKind_27 rfl rfl ?_
          refine r_taldN (k0 := 2) (j := 0) (by decide) rfl (by show _ < 6; omega) dX11_isOfKind_28 ?_
          refine r_istore_n dX11_isOfKind_29 rfl (by decide) ?_
          refine r_iinc (v := 2) dX11_isOfKind_30 rfl (by decide) (by decide) ?_
          refine r_goto (tgt := 4) dX11_isOfKind_33 (by decide) ?_
          refine PW.subL (L' := [some (.int (nI 5)), some (.int as_), some (.int (-3)), some (.int (nI 2))]) ?_ (by repeat' first | exact True.intro | refine And.intro rfl ?_)
          refine r_iload_n dX11_isOfKind_4 rfl rfl ?_
          refine r_bipush (v := 6) dX11_isOfKind_5 (by decide) ?_
          refine r_icmp_ge (tgt := 36) dX11_isOfKind_7 (by decide) (fun c => absurd c (by decide)) (fun _ => ?_)
          refine r_iload_n dX11_isOfKind_10 rfl rfl ?_
          refine r_callS_dI dX11_isOfKind_11 (s_X11_isKind g _ _) mf_X11_isKind mt_X11_isKind ml_X11_143 rfl rfl (Nat.le_of_ble_eq_true rfl) ⟨(Nat.le_of_ble_eq_true rfl), (Nat.le_of_ble_eq_true rfl)⟩ ⟨(Nat.le_of_ble_eq_true rfl), (Nat.le_of_ble_eq_true rfl)⟩ ?_
          refine r_if_eq (tgt := 36) dX11_isOfKind_14 (by decide) (fun c_14 => ?_) (fun c_14 => ?_)
          · have c_14 := bI_0 c_14
            (try dsimp only [Gs_M] at c_14)
            refine r_iconst (v := 0) dX11_isOfKind_36 (by decide) ?_
            refine r_zret dX11_isOfKind_37 rfl rfl (Nat.le_refl _) ?_
            (try dsimp only [Gs_M])
            exact dI_f (fun z => z.elim (fun y => n1 y.symm) (fun z => z.elim n0 (fun z => z.elim (fun y => absurd y.2 (by decide)) (fun y => absurd y.2 (by decide)))))
          · have c_14 := bI_n c_14
            (try dsimp only [Gs_M] at c_14)
            exact absurd c_14 (by decide)
        · (try dsimp only [Gs_M] at c_19)
          refine r_iconst (v := 1) dX11_isOfKind_22 (by decide) ?_
          refine r_zret dX11_isOfKind_23 rfl rfl (Nat.le_refl _) ?_
          (try dsimp only [Gs_M])
          exact dI_t (Or.inl c_19.symm)
    · (try dsimp only [Gs_M] at c_19)
      refine r_iconst (v := 1) dX11_isOfKind_22 (by decide) ?_
      refine r_zret dX11_isOfKind_23 rfl rfl (Nat.le_refl _) ?_
      (try dsimp only [Gs_M])
      exact dI_t (Or.inr (Or.inl c_19))
theorem s_X11_isOfKind (g : pG) (d : Nat) (hd : d ≤ 5) (as_ : Int32) (S : pS) : MS g mX11_isOfKind 2 0 0 [.int (nI d), .int as_] S (dI (bI (unA (nI d) as_)) S) := by
  rcases (by omega : d = 0 ∨ d = 1 ∨ d = 2 ∨ d = 3 ∨ d = 4 ∨ d = 5) with rfl | rfl | rfl | rfl | rfl | rfl
  · exact s_X11_isOfKind_0 g as_ S
  · exact s_X11_isOfKind_1 g as_ S
  · exact s_X11_isOfKind_2 g as_ S
  · exact s_X11_isOfKind_3 g as_ S
  · exact s_X11_isOfKind_4 g as_ S
  · exact s_X11_isOfKind_5 g as_ S
set_option maxRecDepth 20000 in
set_option maxHeartbeats 1000000 in
theorem s_X11_shelf (g : pG) {S : pS} (hS : sOk S) (hI : InvR (vw S 1)) {so sz it : Nat → Int32} (hV : ShV so sz) (hR : ShR S so sz it) {ho h1 : Nat → Int32} (hF : SfR S ho h1) (s what n : Int32) : MS g mX11_shelf 2 0 0 [.ref 0, .int s, .int what, .int n] (S) (eI (fun rx S1 => rx = shelfX (vw (S) 1) s what n ∧ fr [42, 43, 44] (S) S1 ∧ SfR S1 (shelfH (vw (S) 1) so ho s what n) (shelfO (vw (S) 1) sz h1 s what n))) := by
  obtain ⟨M0, rfl⟩ := sOk_gs hS
  obtain ⟨h8, hpl⟩ := hI.pl
  refine MS.of pn_X11 (Nat.le_of_ble_eq_true rfl) ?_
  refine r_iload_n dX11_shelf_0 rfl rfl ?_
  refine r_callS_dI dX11_shelf_1 (s_X11_isShelf g _ _) mf_X11_isShelf mt_X11_isShelf ml_X11_287 rfl rfl (Nat.le_of_ble_eq_true rfl) ⟨(Nat.le_of_ble_eq_true rfl), (Nat.le_of_ble_eq_true rfl)⟩ ⟨(Nat.le_of_ble_eq_true rfl), (Nat.le_of_ble_eq_true rfl)⟩ ?_
  refine r_if_ne (tgt := 9) dX11_shelf_4 (by decide) (fun c_4 => ?_) (fun c_4 => ?_)
  · have c_4 := bI_n c_4
    (try dsimp only [Gs_M] at c_4)
    obtain ⟨ja, hja, rfl⟩ := rng (x := s) 3 (by decide) c_4
    refine r_iload_n dX11_shelf_9 rfl rfl ?_
    by_cases e_10_0 : what = 0
    · refine r_tableAt (tgt := 36) 0 dX11_shelf_10 e_10_0 (by decide) (by decide) rfl (by decide) ?_
      refine r_aload_n dX11_shelf_36 rfl rfl ?_
      refine r_iload_n dX11_shelf_37 rfl rfl ?_
      refine r_callV_dI (ci := 11) dX11_shelf_38 (s_X11_isPlayer g hS hI _) mf_X11_isPlayer mi_X11_isPlayer se_X11_X11_X11_isPlayer ml_X11_150 rfl rfl (Nat.le_of_ble_eq_true rfl) rfl (by decide) rfl (Nat.le_of_ble_eq_true rfl) ⟨(Nat.le_of_ble_eq_true rfl), (Nat.le_of_ble_eq_true rfl)⟩ ⟨(Nat.le_of_ble_eq_true rfl), (Nat.le_of_ble_eq_true rfl)⟩ ?_
      refine r_if_eq (tgt := 55) dX11_shelf_41 (by decide) (fun c_41 => ?_) (fun c_41 => ?_)
      · have c_41 := bI_0 c_41
        (try dsimp only [Gs_M] at c_41)
        refine r_iconst (v := (-1)) dX11_shelf_55 (by decide) ?_
        refine r_iret dX11_shelf_56 rfl (Nat.le_refl _) ?_
        (try dsimp only [Gs_M])
        have nA : ¬ slA (vw (Gs M0) 1) (nI ja) what n := fun z => c_41 (z.2.2.1 e_10_0)
        refine ⟨_, rfl, ?_, fr.rf, ?_⟩
        · rw [shelfX, if_neg nA]
        · rw [shelfH, shelfO, if_neg nA, if_neg nA]
          exact hF
      · have c_41 := bI_n c_41
        (try dsimp only [Gs_M] at c_41)
        refine r_aload_n dX11_shelf_44 rfl rfl ?_
        refine r_iload_n dX11_shelf_45 rfl rfl ?_
        refine r_iconst (v := 1) dX11_shelf_46 (by decide) ?_
        refine r_iload_n dX11_shelf_47 rfl rfl ?_
        refine r_iconst (v := 0) dX11_shelf_48 (by decide) ?_
        refine r_callV_dI (ci := 11) dX11_shelf_49 (s_X11_shelve g hS (ja) (by omega) _ _ _) mf_X11_shelve mi_X11_shelve se_X11_X11_X11_shelve ml_X11_290 rfl rfl (Nat.le_of_ble_eq_true rfl) rfl (by decide) rfl (Nat.le_of_ble_eq_true rfl) ⟨(Nat.le_of_ble_eq_true rfl), (Nat.le_of_ble_eq_true rfl)⟩ ⟨(Nat.le_of_ble_eq_true rfl), (Nat.le_of_ble_eq_true rfl)⟩ ?_
        refine r_goto (tgt := 56) dX11_shelf_52 (by decide) ?_
        refine r_iret dX11_shelf_56 rfl (Nat.le_refl _) ?_
        (try dsimp only [Gs_M])
        have hA : slA (vw (Gs M0) 1) (nI ja) what n := ⟨c_4, in_c 0 2 (by decide) (by omega) (by omega) e_10_0, fun _ => c_41, fun z => absurd (e_10_0.symm.trans z) (by decide)⟩
        refine ⟨_, rfl, ?_, ((fr.rf.set (by decide)).set (by decide)).set (by decide), ?_⟩
        · rw [shelfX, if_pos hA]
        · rw [shelfH, shelfO, if_pos hA, if_pos hA, cl_nI (by omega), if_pos e_10_0, if_pos e_10_0]
          exact hF.set (Or.inr (Or.inl ⟨rfl, rfl, rfl⟩))
    by_cases e_10_1 : what = 1
    · refine r_tableAt (tgt := 57) 1 dX11_shelf_10 e_10_1 (by decide) (by decide) rfl (by decide) ?_
      refine r_iload_n dX11_shelf_57 rfl rfl ?_
      refine r_callS_dI dX11_shelf_58 (s_X11_isSheet g _ _) mf_X11_isSheet mt_X11_isSheet ml_X11_237 rfl rfl (Nat.le_of_ble_eq_true rfl) ⟨(Nat.le_of_ble_eq_true rfl), (Nat.le_of_ble_eq_true rfl)⟩ ⟨(Nat.le_of_ble_eq_true rfl), (Nat.le_of_ble_eq_true rfl)⟩ ?_
      refine r_if_ne (tgt := 66) dX11_shelf_61 (by decide) (fun c_61 => ?_) (fun c_61 => ?_)
      · have c_61 := bI_n c_61
        (try dsimp only [Gs_M] at c_61)
        obtain ⟨jn, hjn, rfl⟩ := rng (x := n) 3 (by decide) c_61
        obtain ⟨e_so, e_sz, e_it⟩ := hR jn (by omega)
        have e_so : (Gs M0).2.2.2 (34 + 2 * jn) 0 = so jn := e_so
        have e_sz : (Gs M0).2.2.2 (34 + 2 * jn) 1 = sz jn := e_sz
        refine r_aload_n dX11_shelf_66 rfl rfl ?_
        refine r_getR (q := 33) dX11_shelf_67 (ci := 11) (kf := 9) rfl (Nat.le_of_ble_eq_true rfl) (by decide) (by decide) rfl fl_X11_48 (Or.inl rfl) rfl ?_
        refine r_iload_n dX11_shelf_70 rfl rfl ?_
        refine r_aaldS (q := (34 + 2 * jn)) (j := jn) dX11_shelf_71 rfl (Nat.le_of_ble_eq_true rfl) rfl (by omega) (by decide) (rf33 (by omega)) ?_
        refine r_astore dX11_shelf_72 (by decide) ?_
        refine r_aload_n dX11_shelf_74 rfl rfl ?_
        refine r_iload_n dX11_shelf_75 rfl rfl ?_
        refine r_aload dX11_shelf_76 rfl ?_
        refine r_getI dX11_shelf_78 (ci := 6) (kf := 0) (ShG (show jn < 4 by omega)).2.1 (Sh_lt (ShG (show jn < 4 by omega))) (by decide) (by decide) rfl fl_X11_240 (Or.inl rfl) ?_
        rw [e_so]
        refine r_iconst (v := (-1)) dX11_shelf_81 (by decide) ?_
        refine r_icmp_ne (tgt := 89) dX11_shelf_82 (by decide) (fun c_82 => ?_) (fun c_82 => ?_)
        · (try dsimp only [Gs_M] at c_82)
          refine r_iconst (v := 2) dX11_shelf_89 (by decide) ?_
          refine r_aload dX11_shelf_90 rfl ?_
          refine r_getI dX11_shelf_92 (ci := 6) (kf := 1) (ShG (show jn < 4 by omega)).2.1 (Sh_lt (ShG (show jn < 4 by omega))) (by decide) (by decide) rfl fl_X11_274 (Or.inl rfl) ?_
          rw [e_sz]
          refine r_aload dX11_shelf_95 rfl ?_
          refine r_getI dX11_shelf_97 (ci := 6) (kf := 0) (ShG (show jn < 4 by omega)).2.1 (Sh_lt (ShG (show jn < 4 by omega))) (by decide) (by decide) rfl fl_X11_240 (Or.inl rfl) ?_
          rw [e_so]
          refine r_callV_dI (ci := 11) dX11_shelf_100 (s_X11_shelve g hS (ja) (by omega) _ _ _) mf_X11_shelve mi_X11_shelve se_X11_X11_X11_shelve ml_X11_290 rfl rfl (Nat.le_of_ble_eq_true rfl) rfl (by decide) rfl (Nat.le_of_ble_eq_true rfl) ⟨(Nat.le_of_ble_eq_true rfl), (Nat.le_of_ble_eq_true rfl)⟩ ⟨(Nat.le_of_ble_eq_true rfl), (Nat.le_of_ble_eq_true rfl)⟩ ?_
          refine r_iret dX11_shelf_103 rfl (Nat.le_refl _) ?_
          (try dsimp only [Gs_M])
          obtain ⟨d, hd, ed⟩ : ∃ d, d ≤ 3 ∧ so jn = nI d := by
            rcases (hV jn (by omega)).1 with e | ⟨d, hd, e⟩
            · exact absurd e c_82
            · exact ⟨d, hd, e⟩
          have hA : slA (vw (Gs M0) 1) (nI ja) what (nI jn) := ⟨c_4, in_c 1 2 (by decide) (by omega) (by omega) e_10_1, fun z => absurd z e_10_0, fun _ => c_61⟩
          refine ⟨_, rfl, ?_, ((fr.rf.set (by decide)).set (by decide)).set (by decide), ?_⟩
          · rw [shelfX, if_pos hA]
          · rw [shelfH, shelfO, if_pos hA, if_pos hA, cl_nI (by omega), if_neg e_10_0, cl_nI (by omega), if_pos ⟨e_10_1, by rw [ed]; exact nI_pos (by omega)⟩, if_neg e_10_0, if_pos e_10_1]
            exact hF.set (Or.inr (Or.inr ⟨rfl, ⟨d, hd, ed, by rw [ed]⟩, rfl⟩))
        · (try dsimp only [Gs_M] at c_82)
          refine r_iconst (v := 0) dX11_shelf_85 (by decide) ?_
          refine r_goto (tgt := 90) dX11_shelf_86 (by decide) ?_
          refine r_aload dX11_shelf_90 rfl ?_
          refine r_getI dX11_shelf_92 (ci := 6) (kf := 1) (ShG (show jn < 4 by omega)).2.1 (Sh_lt (ShG (show jn < 4 by omega))) (by decide) (by decide) rfl fl_X11_274 (Or.inl rfl) ?_
          rw [e_sz]
          refine r_aload dX11_shelf_95 rfl ?_
          refine r_getI dX11_shelf_97 (ci := 6) (kf := 0) (ShG (show jn < 4 by omega)).2.1 (Sh_lt (ShG (show jn < 4 by omega))) (by decide) (by decide) rfl fl_X11_240 (Or.inl rfl) ?_
          rw [e_so]
          refine r_callV_dI (ci := 11) dX11_shelf_100 (s_X11_shelve g hS (ja) (by omega) _ _ _) mf_X11_shelve mi_X11_shelve se_X11_X11_X11_shelve ml_X11_290 rfl rfl (Nat.le_of_ble_eq_true rfl) rfl (by decide) rfl (Nat.le_of_ble_eq_true rfl) ⟨(Nat.le_of_ble_eq_true rfl), (Nat.le_of_ble_eq_true rfl)⟩ ⟨(Nat.le_of_ble_eq_true rfl), (Nat.le_of_ble_eq_true rfl)⟩ ?_
          refine r_iret dX11_shelf_103 rfl (Nat.le_refl _) ?_
          (try dsimp only [Gs_M])
          have hA : slA (vw (Gs M0) 1) (nI ja) what (nI jn) := ⟨c_4, in_c 1 2 (by decide) (by omega) (by omega) e_10_1, fun z => absurd z e_10_0, fun _ => c_61⟩
          refine ⟨_, rfl, ?_, ((fr.rf.set (by decide)).set (by decide)).set (by decide), ?_⟩
          · rw [shelfX, if_pos hA]
          · rw [shelfH, shelfO, if_pos hA, if_pos hA, cl_nI (by omega), if_neg e_10_0, cl_nI (by omega), if_neg (fun z => z.2 (by rw [c_82]; decide)), if_neg e_10_0, if_pos e_10_1]
            exact hF.set (Or.inl ⟨rfl, rfl⟩)
      · have c_61 := bI_0 c_61
        (try dsimp only [Gs_M] at c_61)
        refine r_iconst (v := (-1)) dX11_shelf_64 (by decide) ?_
        refine r_iret dX11_shelf_65 rfl (Nat.le_refl _) ?_
        (try dsimp only [Gs_M])
        have nA : ¬ slA (vw (Gs M0) 1) (nI ja) what n := fun z => c_61 (z.2.2.2 e_10_1)
        refine ⟨_, rfl, ?_, fr.rf, ?_⟩
        · rw [shelfX, if_neg nA]
        · rw [shelfH, shelfO, if_neg nA, if_neg nA]
          exact hF
    by_cases e_10_2 : what = 2
    · refine r_tableAt (tgt := 104) 2 dX11_shelf_10 e_10_2 (by decide) (by decide) rfl (by decide) ?_
      refine r_aload_n dX11_shelf_104 rfl rfl ?_
      refine r_iload_n dX11_shelf_105 rfl rfl ?_
      refine r_iconst (v := 0) dX11_shelf_106 (by decide) ?_
      refine r_iconst (v := 0) dX11_shelf_107 (by decide) ?_
      refine r_iconst (v := 0) dX11_shelf_108 (by decide) ?_
      refine r_callV_dI (ci := 11) dX11_shelf_109 (s_X11_shelve g hS (ja) (by omega) _ _ _) mf_X11_shelve mi_X11_shelve se_X11_X11_X11_shelve ml_X11_290 rfl rfl (Nat.le_of_ble_eq_true rfl) rfl (by decide) rfl (Nat.le_of_ble_eq_true rfl) ⟨(Nat.le_of_ble_eq_true rfl), (Nat.le_of_ble_eq_true rfl)⟩ ⟨(Nat.le_of_ble_eq_true rfl), (Nat.le_of_ble_eq_true rfl)⟩ ?_
      refine r_iret dX11_shelf_112 rfl (Nat.le_refl _) ?_
      (try dsimp only [Gs_M])
      have hA : slA (vw (Gs M0) 1) (nI ja) what n := ⟨c_4, in_c 2 2 (by decide) (by omega) (by omega) e_10_2, fun z => absurd z e_10_0, fun z => absurd z e_10_1⟩
      refine ⟨_, rfl, ?_, ((fr.rf.set (by decide)).set (by decide)).set (by decide), ?_⟩
      · rw [shelfX, if_pos hA]
      · rw [shelfH, shelfO, if_pos hA, if_pos hA, cl_nI (by omega), if_neg e_10_0, if_neg (fun z => e_10_1 z.1), if_neg e_10_0, if_neg e_10_1]
        exact hF.set (Or.inl ⟨rfl, rfl⟩)
    refine r_tableOut (tgt := 113) dX11_shelf_10 (out_of2 (lo := 0) (n := 2) (by decide) (fun j hl hj => ?_)) (by decide) ?_
    · rcases (by omega : j = 0 ∨ j = 1 ∨ j = 2) with rfl | rfl | rfl
      · exact e_10_0
      · exact e_10_1
      · exact e_10_2
    refine r_iconst (v := (-1)) dX11_shelf_113 (by decide) ?_
    refine r_iret dX11_shelf_114 rfl (Nat.le_refl _) ?_
    (try dsimp only [Gs_M])
    have nA : ¬ slA (vw (Gs M0) 1) (nI ja) what n := (fun z => sw_no (x := what) (hi := 2) 2 (by decide) (fun j hj => by
      rcases (by omega : j = 0 ∨ j = 1 ∨ j = 2) with rfl | rfl | rfl
      · exact e_10_0
      · exact e_10_1
      · exact e_10_2) z.2.1)
    refine ⟨_, rfl, ?_, fr.rf, ?_⟩
    · rw [shelfX, if_neg nA]
    · rw [shelfH, shelfO, if_neg nA, if_neg nA]
      exact hF
  · have c_4 := bI_0 c_4
    (try dsimp only [Gs_M] at c_4)
    refine r_iconst (v := (-1)) dX11_shelf_7 (by decide) ?_
    refine r_iret dX11_shelf_8 rfl (Nat.le_refl _) ?_
    (try dsimp only [Gs_M])
    have nA : ¬ slA (vw (Gs M0) 1) s what n := fun z => c_4 z.1
    refine ⟨_, rfl, ?_, fr.rf, ?_⟩
    · rw [shelfX, if_neg nA]
    · rw [shelfH, shelfO, if_neg nA, if_neg nA]
      exact hF
