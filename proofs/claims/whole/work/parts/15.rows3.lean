/-! ===== rows: references, arrays ===== -/
theorem r_putR {g : pG} {M : pM} {E : pE} {pc : Nat} {L : pL} {st : List Value} {S : pS} {k n : Nat} {q : Nat} {idx ci kf i : Nat} {ref : String} (d : decode M.2.1 pc = .ok (.putfield idx, 3)) (hs : S.2.1 i = .inr ci) (hi : i < S.1) (hci : ci < 13) (hk : kf < clN ci) (hrf : isRf (clTy ci kf) = true) (hl : Cond.fieldLink M.1.cls idx ref (clT ci kf).2.1 (clT ci kf).2.2.1 ∈ gT) (hown : (clT ci kf).1 = M.1.cls) (href : ref = M.1.cls) (hfin : (clT ci kf).2.2.2 = true) (hnm : M.1.name = "<init>") (kk : PW g M E (pc + 3) L st (rSet S i kf (some q)) k n) : PW g M E pc L (.ref q :: .ref i :: st) S k n := by
  intro p e s m args below meth c H locs ls hF hW hN hS hL
  have hsame : ∀ x, s.fieldFound? (clT ci kf).1 (clT ci kf).2.1 (clT ci kf).2.2.1 = some x → s.fieldFound? ref (clT ci kf).2.1 (clT ci kf).2.2.1 = some x := by
    intro x hx; rw [href, ← hown]; exact hx
  refine va_putF hF.1 hF.2.1 (Ts := wsM M) hF.2.2.2.2.2.1 (fun w h => wsM_t (cl_in hci w h)) (clTy ci) (cl_ty hci) (cl_nm hci) hF.2.2.2.2.1 hW.K hW.P hW.D hS i ((wsOf_get hi).trans (by rw [cellOf_o hs])) (cl_some hci) kf hk (hF.2.2.2.2.2.1 _ (wsM_t hl)) hsame hfin (hF.2.2.2.2.2.2.2.1.trans hnm) hown (cl_ty hci kf hk) (by revert hrf; cases clTy ci kf <;> intro hrf <;> first | rfl | cases hrf) (by revert hrf; cases clTy ci kf <;> intro hrf <;> first | rfl | cases hrf) (by rw [fsOf_len]; exact hk) d (fun H1 locs1 hP1 hD1 hS1 => ?_)
  have e1 : (fsOf (gad g) S i ci).set kf (.ref (gad g q)) = fsOf (gad g) (rSet S i kf (some q)) i ci := fsOf_set (by unfold fdOf rSet; rw [if_pos hrf]; simp [va_up, va_rf]) (fun j hj => by unfold fdOf rSet; simp [va_up, hj])
  have e2 : (wsOf g.2.2.1 (gad g) S).set i (gad g i, .inr (ci, (fsOf (gad g) S i ci).set kf (.ref (gad g q)))) = wsOf g.2.2.1 (gad g) (rSet S i kf (some q)) := wsOf_set rfl (by rw [e1]; exact cellOf_o hs) (fun j hj => cellOf_cong rfl (by simp [rSet, hj]) rfl)
  change va_P g.2.1 vwCl ((wsOf g.2.2.1 (gad g) S).set i (gad g i, .inr (ci, (fsOf (gad g) S i ci).set kf (.ref (gad g q))))) H1 at hP1
  rw [e2] at hP1
  exact kk p e s m args below meth c H1 locs1 ls hF ⟨hW.1, hW.2.1, hP1, hW.K⟩ hN hS1 hL
theorem r_iald {g : pG} {M : pM} {E : pE} {pc : Nat} {L : pL} {st : List Value} {S : pS} {k n : Nat} {x : Int32} {i j N : Nat} (d : decode M.2.1 pc = .ok (.iaload, 1)) (hs : S.2.1 i = .inl (0, N)) (hi : i < S.1) (hx : x = nI j) (hj : j < N) (hN31 : N ≤ 2147483647) (kk : PW g M E (pc + 1) L (.int (S.2.2.2 i j) :: st) S k n) : PW g M E pc L (.int x :: .ref i :: st) S k n := by
  intro p e s m args below meth c H locs ls hF hW hN hS hL
  subst hx
  have h := kk p e s m args below meth c H locs ls hF hW hN hS hL
  exact va_iald hF.1 hF.2.1 hW.K hW.P i 0 ((wsOf_get hi).trans (by rw [cellOf_a hs (by decide)])) rfl (vp_in_nI hj (by omega)) d (by rw [nI_clamp (by omega)]; exact h)
theorem r_bald {g : pG} {M : pM} {E : pE} {pc : Nat} {L : pL} {st : List Value} {S : pS} {k n : Nat} {x : Int32} {i j N : Nat} (d : decode M.2.1 pc = .ok (.baload, 1)) (hs : S.2.1 i = .inl (1, N)) (hi : i < S.1) (hx : x = nI j) (hj : j < N) (hN31 : N ≤ 2147483647) (kk : PW g M E (pc + 1) L (.int (S.2.2.2 i j) :: st) S k n) : PW g M E pc L (.int x :: .ref i :: st) S k n := by
  intro p e s m args below meth c H locs ls hF hW hN hS hL
  subst hx
  have h := kk p e s m args below meth c H locs ls hF hW hN hS hL
  exact va_bald hF.1 hF.2.1 hW.K hW.P i 1 ((wsOf_get hi).trans (by rw [cellOf_a hs (by decide)])) rfl (vp_in_nI hj (by omega)) d (by rw [nI_clamp (by omega)]; exact h)
theorem r_cald {g : pG} {M : pM} {E : pE} {pc : Nat} {L : pL} {st : List Value} {S : pS} {k n : Nat} {x : Int32} {i j N : Nat} (d : decode M.2.1 pc = .ok (.caload, 1)) (hs : S.2.1 i = .inl (2, N)) (hi : i < S.1) (hx : x = nI j) (hj : j < N) (hN31 : N ≤ 2147483647) (kk : PW g M E (pc + 1) L (.int (S.2.2.2 i j) :: st) S k n) : PW g M E pc L (.int x :: .ref i :: st) S k n := by
  intro p e s m args below meth c H locs ls hF hW hN hS hL
  subst hx
  have h := kk p e s m args below meth c H locs ls hF hW hN hS hL
  exact va_cald hF.1 hF.2.1 hW.K hW.P i 2 ((wsOf_get hi).trans (by rw [cellOf_a hs (by decide)])) rfl (vp_in_nI hj (by omega)) d (by rw [nI_clamp (by omega)]; exact h)
theorem r_iast {g : pG} {M : pM} {E : pE} {pc : Nat} {L : pL} {st : List Value} {S : pS} {k n : Nat} {y : Int32} {x : Int32} {i j N : Nat} (d : decode M.2.1 pc = .ok (.iastore, 1)) (hs : S.2.1 i = .inl (0, N)) (hi : i < S.1) (hx : x = nI j) (hj : j < N) (hN31 : N ≤ 2147483647) (kk : PW g M E (pc + 1) L st (mSet S i j y) k n) : PW g M E pc L (.int y :: .int x :: .ref i :: st) S k n := by
  intro p e s m args below meth c H locs ls hF hW hN hS hL
  subst hx
  refine va_iast hF.1 hF.2.1 hW.K hW.P hW.D hS i 0 ((wsOf_get hi).trans (by rw [cellOf_a hs (by decide)])) rfl (vp_in_nI hj (by omega)) d (fun H1 locs1 hP1 hD1 hS1 => ?_)
  rw [nI_clamp (by omega)] at hP1
  have e2 : (wsOf g.2.2.1 (gad g) S).set i (gad g i, .inl (g.2.2.1 0, N, .inl (upd (S.2.2.2 i) j y))) = wsOf g.2.2.1 (gad g) (mSet S i j y) := wsOf_set rfl ((cellOf_a (S := mSet S i j y) hs (by decide)).trans (by simp [mSet])) (fun q hq => cellOf_cong rfl rfl (by simp [mSet, hq]))
  rw [e2] at hP1
  exact kk p e s m args below meth c H1 locs1 ls hF ⟨hW.1, hW.2.1, hP1, hW.K⟩ hN hS1 hL
theorem r_bast {g : pG} {M : pM} {E : pE} {pc : Nat} {L : pL} {st : List Value} {S : pS} {k n : Nat} {y : Int32} {x : Int32} {i j N : Nat} (d : decode M.2.1 pc = .ok (.bastore, 1)) (hs : S.2.1 i = .inl (1, N)) (hi : i < S.1) (hx : x = nI j) (hj : j < N) (hN31 : N ≤ 2147483647) (kk : PW g M E (pc + 1) L st (mSet S i j (vp_nar .byte y)) k n) : PW g M E pc L (.int y :: .int x :: .ref i :: st) S k n := by
  intro p e s m args below meth c H locs ls hF hW hN hS hL
  subst hx
  refine va_bast hF.1 hF.2.1 hW.K hW.P hW.D hS i 1 ((wsOf_get hi).trans (by rw [cellOf_a hs (by decide)])) rfl (vp_in_nI hj (by omega)) d (fun H1 locs1 hP1 hD1 hS1 => ?_)
  rw [nI_clamp (by omega)] at hP1
  have e2 : (wsOf g.2.2.1 (gad g) S).set i (gad g i, .inl (g.2.2.1 1, N, .inl (upd (S.2.2.2 i) j (vp_nar .byte y)))) = wsOf g.2.2.1 (gad g) (mSet S i j (vp_nar .byte y)) := wsOf_set rfl ((cellOf_a (S := mSet S i j (vp_nar .byte y)) hs (by decide)).trans (by simp [mSet])) (fun q hq => cellOf_cong rfl rfl (by simp [mSet, hq]))
  rw [e2] at hP1
  exact kk p e s m args below meth c H1 locs1 ls hF ⟨hW.1, hW.2.1, hP1, hW.K⟩ hN hS1 hL
theorem r_cast {g : pG} {M : pM} {E : pE} {pc : Nat} {L : pL} {st : List Value} {S : pS} {k n : Nat} {y : Int32} {x : Int32} {i j N : Nat} (d : decode M.2.1 pc = .ok (.castore, 1)) (hs : S.2.1 i = .inl (2, N)) (hi : i < S.1) (hx : x = nI j) (hj : j < N) (hN31 : N ≤ 2147483647) (kk : PW g M E (pc + 1) L st (mSet S i j (vp_nar .char y)) k n) : PW g M E pc L (.int y :: .int x :: .ref i :: st) S k n := by
  intro p e s m args below meth c H locs ls hF hW hN hS hL
  subst hx
  refine va_cast hF.1 hF.2.1 hW.K hW.P hW.D hS i 2 ((wsOf_get hi).trans (by rw [cellOf_a hs (by decide)])) rfl (vp_in_nI hj (by omega)) d (fun H1 locs1 hP1 hD1 hS1 => ?_)
  rw [nI_clamp (by omega)] at hP1
  have e2 : (wsOf g.2.2.1 (gad g) S).set i (gad g i, .inl (g.2.2.1 2, N, .inl (upd (S.2.2.2 i) j (vp_nar .char y)))) = wsOf g.2.2.1 (gad g) (mSet S i j (vp_nar .char y)) := wsOf_set rfl ((cellOf_a (S := mSet S i j (vp_nar .char y)) hs (by decide)).trans (by simp [mSet])) (fun q hq => cellOf_cong rfl rfl (by simp [mSet, hq]))
  rw [e2] at hP1
  exact kk p e s m args below meth c H1 locs1 ls hF ⟨hW.1, hW.2.1, hP1, hW.K⟩ hN hS1 hL
theorem r_aaldP {g : pG} {M : pM} {E : pE} {pc : Nat} {L : pL} {st : List Value} {S : pS} {k n : Nat} {q : Nat} {x : Int32} {i j N : Nat} (d : decode M.2.1 pc = .ok (.aaload, 1)) (hs : S.2.1 i = .inl (3, N)) (hi : i < S.1) (hx : x = nI j) (hj : j < N) (hN31 : N ≤ 2147483647) (hr : S.2.2.1 i j = some q) (kk : PW g M E (pc + 1) L (.ref q :: st) S k n) : PW g M E pc L (.int x :: .ref i :: st) S k n := by
  intro p e s m args below meth c H locs ls hF hW hN hS hL
  subst hx
  have h := kk p e s m args below meth c H locs ls hF hW hN hS hL
  exact va_aldq hF.1 hF.2.1 hW.K hW.P i 3 (C := "TonightCovers$Player") ((wsOf_get hi).trans (by rw [cellOf_q hs (by decide)])) rfl (vp_in_nI hj (by omega)) d (by rw [nI_clamp (by omega), hr]; exact h)
theorem r_aastP {g : pG} {M : pM} {E : pE} {pc : Nat} {L : pL} {st : List Value} {S : pS} {k n : Nat} {q ci : Nat} {x : Int32} {i j N : Nat} (d : decode M.2.1 pc = .ok (.aastore, 1)) (hs : S.2.1 i = .inl (3, N)) (hi : i < S.1) (hx : x = nI j) (hj : j < N) (hN31 : N ≤ 2147483647) (hs2 : S.2.1 q = .inr ci) (hi2 : q < S.1) (hci : ci < 13) (hca : clC ci = "TonightCovers$Player" ∨ clC ci ∈ xCS) (kk : PW g M E (pc + 1) L st (rSet S i j (some q)) k n) : PW g M E pc L (.ref q :: .int x :: .ref i :: st) S k n := by
  intro p e s m args below meth c H locs ls hF hW hN hS hL
  subst hx
  have hv : (wsOf g.2.2.1 (gad g) S)[q]? = some (gad g q, .inr (ci, fsOf (gad g) S q ci)) := (wsOf_get hi2).trans (by rw [cellOf_o hs2])
  have ha : (wsOf g.2.2.1 (gad g) S)[i]? = some (gad g i, .inl (g.2.2.1 3, N, .inr (.inr (.inr (.inr (fun j => (S.2.2.1 i j).map (gad g))))))) := (wsOf_get hi).trans (by rw [cellOf_q hs (by decide)])
  have go : ∀ (H1 : Heap) (locs1 : List Loc), va_P g.2.1 vwCl ((wsOf g.2.2.1 (gad g) S).set i (gad g i, .inl (g.2.2.1 3, N, .inr (.inr (.inr (.inr (va_up (fun j => (S.2.2.1 i j).map (gad g)) (nI j).toNatClampNeg (some (gad g q)))))))))  H1 → va_S (pA g) s.heap H1 locs1 → W p g.1 e E.1 s m args below meth c H1 locs1 k n (E.2.2 below args s) (F0 m (pc + 1) ls (st.map (vr (gad g)))) := by
    intro H1 locs1 hP1 hS1
    rw [nI_clamp (by omega)] at hP1
    have e2 : (wsOf g.2.2.1 (gad g) S).set i (gad g i, .inl (g.2.2.1 3, N, .inr (.inr (.inr (.inr (va_up (fun j => (S.2.2.1 i j).map (gad g)) j (some (gad g q)))))))) = wsOf g.2.2.1 (gad g) (rSet S i j (some q)) := by
      refine wsOf_set rfl ((cellOf_q (S := rSet S i j (some q)) hs (by decide)).trans ?_) (fun q2 hq => cellOf_cong rfl (by simp [rSet, hq]) rfl)
      have e3 : (fun z => ((rSet S i j (some q)).2.2.1 i z).map (gad g)) = va_up (fun j => (S.2.2.1 i j).map (gad g)) j (some (gad g q)) := by
        funext z
        by_cases hz : z = j
        · subst hz; simp [rSet, va_up]
        · simp [rSet, va_up, hz]
      rw [e3]
    rw [e2] at hP1
    exact kk p e s m args below meth c H1 locs1 ls hF ⟨hW.1, hW.2.1, hP1, hW.K⟩ hN hS1 hL
  rcases hca with hc | hc
  · exact va_astq hF.1 hF.2.1 hW.K hW.P hW.D hS i 3 q ci ha (by rw [show (clC ci, clT ci, clN ci).1 = _ from hc]; rfl) hv (cl_some hci) (vp_in_nI hj (by omega)) d (fun H1 locs1 hP1 _ hS1 => go H1 locs1 hP1 hS1)
  · exact va_astqO hF.1 hF.2.1 hW.K hW.P hW.D hS i 3 q ci (E := "TonightCovers$Player") ha rfl (hF.K.2.2.2.2.2.2.2.1 _ hc) hv (cl_some hci) (vp_in_nI hj (by omega)) d (fun H1 locs1 hP1 _ hS1 => go H1 locs1 hP1 hS1)
theorem r_aaldS {g : pG} {M : pM} {E : pE} {pc : Nat} {L : pL} {st : List Value} {S : pS} {k n : Nat} {q : Nat} {x : Int32} {i j N : Nat} (d : decode M.2.1 pc = .ok (.aaload, 1)) (hs : S.2.1 i = .inl (4, N)) (hi : i < S.1) (hx : x = nI j) (hj : j < N) (hN31 : N ≤ 2147483647) (hr : S.2.2.1 i j = some q) (kk : PW g M E (pc + 1) L (.ref q :: st) S k n) : PW g M E pc L (.int x :: .ref i :: st) S k n := by
  intro p e s m args below meth c H locs ls hF hW hN hS hL
  subst hx
  have h := kk p e s m args below meth c H locs ls hF hW hN hS hL
  exact va_aldq hF.1 hF.2.1 hW.K hW.P i 4 (C := "TonightCovers$Sheet") ((wsOf_get hi).trans (by rw [cellOf_q hs (by decide)])) rfl (vp_in_nI hj (by omega)) d (by rw [nI_clamp (by omega), hr]; exact h)
theorem r_aastS {g : pG} {M : pM} {E : pE} {pc : Nat} {L : pL} {st : List Value} {S : pS} {k n : Nat} {q ci : Nat} {x : Int32} {i j N : Nat} (d : decode M.2.1 pc = .ok (.aastore, 1)) (hs : S.2.1 i = .inl (4, N)) (hi : i < S.1) (hx : x = nI j) (hj : j < N) (hN31 : N ≤ 2147483647) (hs2 : S.2.1 q = .inr ci) (hi2 : q < S.1) (hci : ci < 13) (hca : clC ci = "TonightCovers$Sheet") (kk : PW g M E (pc + 1) L st (rSet S i j (some q)) k n) : PW g M E pc L (.ref q :: .int x :: .ref i :: st) S k n := by
  intro p e s m args below meth c H locs ls hF hW hN hS hL
  subst hx
  have hv : (wsOf g.2.2.1 (gad g) S)[q]? = some (gad g q, .inr (ci, fsOf (gad g) S q ci)) := (wsOf_get hi2).trans (by rw [cellOf_o hs2])
  have ha : (wsOf g.2.2.1 (gad g) S)[i]? = some (gad g i, .inl (g.2.2.1 4, N, .inr (.inr (.inr (.inr (fun j => (S.2.2.1 i j).map (gad g))))))) := (wsOf_get hi).trans (by rw [cellOf_q hs (by decide)])
  have go : ∀ (H1 : Heap) (locs1 : List Loc), va_P g.2.1 vwCl ((wsOf g.2.2.1 (gad g) S).set i (gad g i, .inl (g.2.2.1 4, N, .inr (.inr (.inr (.inr (va_up (fun j => (S.2.2.1 i j).map (gad g)) (nI j).toNatClampNeg (some (gad g q)))))))))  H1 → va_S (pA g) s.heap H1 locs1 → W p g.1 e E.1 s m args below meth c H1 locs1 k n (E.2.2 below args s) (F0 m (pc + 1) ls (st.map (vr (gad g)))) := by
    intro H1 locs1 hP1 hS1
    rw [nI_clamp (by omega)] at hP1
    have e2 : (wsOf g.2.2.1 (gad g) S).set i (gad g i, .inl (g.2.2.1 4, N, .inr (.inr (.inr (.inr (va_up (fun j => (S.2.2.1 i j).map (gad g)) j (some (gad g q)))))))) = wsOf g.2.2.1 (gad g) (rSet S i j (some q)) := by
      refine wsOf_set rfl ((cellOf_q (S := rSet S i j (some q)) hs (by decide)).trans ?_) (fun q2 hq => cellOf_cong rfl (by simp [rSet, hq]) rfl)
      have e3 : (fun z => ((rSet S i j (some q)).2.2.1 i z).map (gad g)) = va_up (fun j => (S.2.2.1 i j).map (gad g)) j (some (gad g q)) := by
        funext z
        by_cases hz : z = j
        · subst hz; simp [rSet, va_up]
        · simp [rSet, va_up, hz]
      rw [e3]
    rw [e2] at hP1
    exact kk p e s m args below meth c H1 locs1 ls hF ⟨hW.1, hW.2.1, hP1, hW.K⟩ hN hS1 hL
  have hc := hca
  · exact va_astq hF.1 hF.2.1 hW.K hW.P hW.D hS i 4 q ci ha (by rw [show (clC ci, clT ci, clN ci).1 = _ from hc]; rfl) hv (cl_some hci) (vp_in_nI hj (by omega)) d (fun H1 locs1 hP1 _ hS1 => go H1 locs1 hP1 hS1)

