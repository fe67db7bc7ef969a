/-! ===== rows: locals, fields, arrays ===== -/
theorem r_iload_n {g : pG} {M : pM} {E : pE} {pc : Nat} {L : pL} {st : List Value} {S : pS} {k n : Nat} {k0 : Fin 4} {i : Nat} {x : Int32} (d : decode M.2.1 pc = .ok (.iload_n k0, 1)) (hi : (k0 : Nat) = i) (hl : L[i]? = some (some (.int x))) (kk : PW g M E (pc + 1) L (.int x :: st) S k n) : PW g M E pc L st S k n := by
  intro p e s m args below meth c H locs ls hF hW hN hS hL
  exact lv_iload_n hF.1 hF.2.1 d hi (lk_at hL hl) (kk p e s m args below meth c H locs ls hF hW hN hS hL)
theorem r_iload {g : pG} {M : pM} {E : pE} {pc : Nat} {L : pL} {st : List Value} {S : pS} {k n : Nat} {i : Nat} {x : Int32} (d : decode M.2.1 pc = .ok (.iload i, 2)) (hl : L[i]? = some (some (.int x))) (kk : PW g M E (pc + 2) L (.int x :: st) S k n) : PW g M E pc L st S k n := by
  intro p e s m args below meth c H locs ls hF hW hN hS hL
  exact lv_iload hF.1 hF.2.1 d (lk_at hL hl) (kk p e s m args below meth c H locs ls hF hW hN hS hL)
theorem r_istore_n {g : pG} {M : pM} {E : pE} {pc : Nat} {L : pL} {st : List Value} {S : pS} {k n : Nat} {k0 : Fin 4} {i : Nat} {x : Int32} (d : decode M.2.1 pc = .ok (.istore_n k0, 1)) (hi : (k0 : Nat) = i) (hn : i < M.2.2.1) (kk : PW g M E (pc + 1) (stL L i (.int x)) st S k n) : PW g M E pc L (.int x :: st) S k n := by
  intro p e s m args below meth c H locs ls hF hW hN hS hL
  exact lv_istore_n hF.1 hF.2.1 d hi hL hn rfl (fun ls' h' => kk p e s m args below meth c H locs ls' hF hW hN hS (lk_st h'))
theorem r_istore {g : pG} {M : pM} {E : pE} {pc : Nat} {L : pL} {st : List Value} {S : pS} {k n : Nat} {i : Nat} {x : Int32} (d : decode M.2.1 pc = .ok (.istore i, 2)) (hn : i < M.2.2.1) (kk : PW g M E (pc + 2) (stL L i (.int x)) st S k n) : PW g M E pc L (.int x :: st) S k n := by
  intro p e s m args below meth c H locs ls hF hW hN hS hL
  exact lv_istore hF.1 hF.2.1 d hL hn rfl (fun ls' h' => kk p e s m args below meth c H locs ls' hF hW hN hS (lk_st h'))
theorem r_lload_n {g : pG} {M : pM} {E : pE} {pc : Nat} {L : pL} {st : List Value} {S : pS} {k n : Nat} {k0 : Fin 4} {i : Nat} {x : Int64} (d : decode M.2.1 pc = .ok (.lload_n k0, 1)) (hi : (k0 : Nat) = i) (hl : L[i]? = some (some (.long x))) (kk : PW g M E (pc + 1) L (.long x :: st) S k n) : PW g M E pc L st S k n := by
  intro p e s m args below meth c H locs ls hF hW hN hS hL
  exact lv_lload_n hF.1 hF.2.1 d hi (lk_at hL hl) (kk p e s m args below meth c H locs ls hF hW hN hS hL)
theorem r_lload {g : pG} {M : pM} {E : pE} {pc : Nat} {L : pL} {st : List Value} {S : pS} {k n : Nat} {i : Nat} {x : Int64} (d : decode M.2.1 pc = .ok (.lload i, 2)) (hl : L[i]? = some (some (.long x))) (kk : PW g M E (pc + 2) L (.long x :: st) S k n) : PW g M E pc L st S k n := by
  intro p e s m args below meth c H locs ls hF hW hN hS hL
  exact lv_lload hF.1 hF.2.1 d (lk_at hL hl) (kk p e s m args below meth c H locs ls hF hW hN hS hL)
theorem r_lstore_n {g : pG} {M : pM} {E : pE} {pc : Nat} {L : pL} {st : List Value} {S : pS} {k n : Nat} {k0 : Fin 4} {i : Nat} {x : Int64} (d : decode M.2.1 pc = .ok (.lstore_n k0, 1)) (hi : (k0 : Nat) = i) (hn : i + 1 < M.2.2.1) (kk : PW g M E (pc + 1) (stL2 L i (.long x)) st S k n) : PW g M E pc L (.long x :: st) S k n := by
  intro p e s m args below meth c H locs ls hF hW hN hS hL
  exact lv_lstore_n hF.1 hF.2.1 d hi hL hn rfl (fun ls' h' => kk p e s m args below meth c H locs ls' hF hW hN hS (lk_st2 h'))
theorem r_lstore {g : pG} {M : pM} {E : pE} {pc : Nat} {L : pL} {st : List Value} {S : pS} {k n : Nat} {i : Nat} {x : Int64} (d : decode M.2.1 pc = .ok (.lstore i, 2)) (hn : i + 1 < M.2.2.1) (kk : PW g M E (pc + 2) (stL2 L i (.long x)) st S k n) : PW g M E pc L (.long x :: st) S k n := by
  intro p e s m args below meth c H locs ls hF hW hN hS hL
  exact lv_lstore hF.1 hF.2.1 d hL hn rfl (fun ls' h' => kk p e s m args below meth c H locs ls' hF hW hN hS (lk_st2 h'))
theorem r_aload_n {g : pG} {M : pM} {E : pE} {pc : Nat} {L : pL} {st : List Value} {S : pS} {k n : Nat} {k0 : Fin 4} {i : Nat} {x : Nat} (d : decode M.2.1 pc = .ok (.aload_n k0, 1)) (hi : (k0 : Nat) = i) (hl : L[i]? = some (some (.ref x))) (kk : PW g M E (pc + 1) L (.ref x :: st) S k n) : PW g M E pc L st S k n := by
  intro p e s m args below meth c H locs ls hF hW hN hS hL
  exact lv_aload_n hF.1 hF.2.1 d hi (lk_at hL hl) (kk p e s m args below meth c H locs ls hF hW hN hS hL)
theorem r_aload {g : pG} {M : pM} {E : pE} {pc : Nat} {L : pL} {st : List Value} {S : pS} {k n : Nat} {i : Nat} {x : Nat} (d : decode M.2.1 pc = .ok (.aload i, 2)) (hl : L[i]? = some (some (.ref x))) (kk : PW g M E (pc + 2) L (.ref x :: st) S k n) : PW g M E pc L st S k n := by
  intro p e s m args below meth c H locs ls hF hW hN hS hL
  exact lv_aload hF.1 hF.2.1 d (lk_at hL hl) (kk p e s m args below meth c H locs ls hF hW hN hS hL)
theorem r_astore_n {g : pG} {M : pM} {E : pE} {pc : Nat} {L : pL} {st : List Value} {S : pS} {k n : Nat} {k0 : Fin 4} {i : Nat} {x : Nat} (d : decode M.2.1 pc = .ok (.astore_n k0, 1)) (hi : (k0 : Nat) = i) (hn : i < M.2.2.1) (kk : PW g M E (pc + 1) (stL L i (.ref x)) st S k n) : PW g M E pc L (.ref x :: st) S k n := by
  intro p e s m args below meth c H locs ls hF hW hN hS hL
  exact lv_astore_n hF.1 hF.2.1 d hi hL hn rfl (fun ls' h' => kk p e s m args below meth c H locs ls' hF hW hN hS (lk_st h'))
theorem r_astore {g : pG} {M : pM} {E : pE} {pc : Nat} {L : pL} {st : List Value} {S : pS} {k n : Nat} {i : Nat} {x : Nat} (d : decode M.2.1 pc = .ok (.astore i, 2)) (hn : i < M.2.2.1) (kk : PW g M E (pc + 2) (stL L i (.ref x)) st S k n) : PW g M E pc L (.ref x :: st) S k n := by
  intro p e s m args below meth c H locs ls hF hW hN hS hL
  exact lv_astore hF.1 hF.2.1 d hL hn rfl (fun ls' h' => kk p e s m args below meth c H locs ls' hF hW hN hS (lk_st h'))
theorem r_iinc {g : pG} {M : pM} {E : pE} {pc : Nat} {L : pL} {st : List Value} {S : pS} {k n : Nat} {i : Nat} {c0 : Int} {x v : Int32} (d : decode M.2.1 pc = .ok (.iinc i c0, 3)) (hl : L[i]? = some (some (.int x))) (hv : x + Int32.ofInt c0 = v) (hn : i < M.2.2.1) (kk : PW g M E (pc + 3) (stL L i (.int v)) st S k n) : PW g M E pc L st S k n := by
  intro p e s m args below meth c H locs ls hF hW hN hS hL
  obtain ⟨j, hj⟩ := List.getElem?_of_mem ((lvF_mem (ad := gad g) L 0).mpr ⟨Nat.zero_le _, _, hl, rfl⟩)
  exact lv_iinc (v := v) hF.1 hF.2.1 d hL hj hv hn rfl (fun ls' h' => kk p e s m args below meth c H locs ls' hF hW hN hS (lk_st h'))
theorem r_dup {g : pG} {M : pM} {E : pE} {pc : Nat} {L : pL} {st : List Value} {S : pS} {k n : Nat} {v : Value} (d : decode M.2.1 pc = .ok (.dup, 1)) (hc : v.category = 1) (kk : PW g M E (pc + 1) L (v :: v :: st) S k n) : PW g M E pc L (v :: st) S k n := by
  intro p e s m args below meth c H locs ls hF hW hN hS hL
  exact lv_dup hF.1 hF.2.1 d (by rw [vr_cat]; exact hc) (kk p e s m args below meth c H locs ls hF hW hN hS hL)
theorem r_pop {g : pG} {M : pM} {E : pE} {pc : Nat} {L : pL} {st : List Value} {S : pS} {k n : Nat} {v : Value} (d : decode M.2.1 pc = .ok (.pop, 1)) (hc : v.category = 1) (kk : PW g M E (pc + 1) L st S k n) : PW g M E pc L (v :: st) S k n := by
  intro p e s m args below meth c H locs ls hF hW hN hS hL
  exact lv_pop hF.1 hF.2.1 d (by rw [vr_cat]; exact hc) (kk p e s m args below meth c H locs ls hF hW hN hS hL)
theorem r_dup_x1 {g : pG} {M : pM} {E : pE} {pc : Nat} {L : pL} {st : List Value} {S : pS} {k n : Nat} {v w : Value} (d : decode M.2.1 pc = .ok (.dup_x1, 1)) (hc : v.category = 1) (hc2 : w.category = 1) (kk : PW g M E (pc + 1) L (v :: w :: v :: st) S k n) : PW g M E pc L (v :: w :: st) S k n := by
  intro p e s m args below meth c H locs ls hF hW hN hS hL
  exact lv_dup_x1 hF.1 hF.2.1 d (by rw [vr_cat]; exact hc) (by rw [vr_cat]; exact hc2) (kk p e s m args below meth c H locs ls hF hW hN hS hL)
theorem r_dup2 {g : pG} {M : pM} {E : pE} {pc : Nat} {L : pL} {st : List Value} {S : pS} {k n : Nat} {v w : Value} (d : decode M.2.1 pc = .ok (.dup2, 1)) (hc : v.category = 1) (hc2 : w.category = 1) (kk : PW g M E (pc + 1) L (v :: w :: v :: w :: st) S k n) : PW g M E pc L (v :: w :: st) S k n := by
  intro p e s m args below meth c H locs ls hF hW hN hS hL
  exact lv_dup2_11 hF.1 hF.2.1 d (by rw [vr_cat]; exact hc) (by rw [vr_cat]; exact hc2) (kk p e s m args below meth c H locs ls hF hW hN hS hL)
theorem r_lcmp {g : pG} {M : pM} {E : pE} {pc : Nat} {L : pL} {st : List Value} {S : pS} {k n : Nat} {x y : Int64} (d : decode M.2.1 pc = .ok (.lcmp, 1)) (kk : PW g M E (pc + 1) L (.int (lg_cmp x y) :: st) S k n) : PW g M E pc L (.long y :: .long x :: st) S k n := by
  intro p e s m args below meth c H locs ls hF hW hN hS hL
  exact W.lcmp hF.1 hF.2.1 d (kk p e s m args below meth c H locs ls hF hW hN hS hL)
theorem r_ldc {g : pG} {M : pM} {E : pE} {pc : Nat} {L : pL} {st : List Value} {S : pS} {k n : Nat} {idx : Nat} {v : Int32} (d : decode M.2.1 pc = .ok (.ldc idx, 2)) (hc : Cond.constant M.1.cls idx v ∈ gT) (kk : PW g M E (pc + 2) L (.int v :: st) S k n) : PW g M E pc L st S k n := by
  intro p e s m args below meth c H locs ls hF hW hN hS hL
  exact lv_ldc hF.1 hF.2.1 hF.2.2.2.2.1 (hF.2.2.2.2.2.1 _ (wsM_t hc)) d (kk p e s m args below meth c H locs ls hF hW hN hS hL)
theorem r_ldcw {g : pG} {M : pM} {E : pE} {pc : Nat} {L : pL} {st : List Value} {S : pS} {k n : Nat} {idx : Nat} {v : Int32} (d : decode M.2.1 pc = .ok (.ldc_w idx, 3)) (hc : Cond.constant M.1.cls idx v ∈ gT) (kk : PW g M E (pc + 3) L (.int v :: st) S k n) : PW g M E pc L st S k n := by
  intro p e s m args below meth c H locs ls hF hW hN hS hL
  exact lv_ldcw hF.1 hF.2.1 hF.2.2.2.2.1 (hF.2.2.2.2.2.1 _ (wsM_t hc)) d (kk p e s m args below meth c H locs ls hF hW hN hS hL)
theorem r_ldc2 {g : pG} {M : pM} {E : pE} {pc : Nat} {L : pL} {st : List Value} {S : pS} {k n : Nat} {idx : Nat} {v : Int64} (d : decode M.2.1 pc = .ok (.ldc2_w idx, 3)) (hc : Cond.constantLong M.1.cls idx v ∈ gT) (kk : PW g M E (pc + 3) L (.long v :: st) S k n) : PW g M E pc L st S k n := by
  intro p e s m args below meth c H locs ls hF hW hN hS hL
  exact lv_ldc2 hF.1 hF.2.1 hF.2.2.2.2.1 (hF.2.2.2.2.2.1 _ (wsM_t hc)) d (kk p e s m args below meth c H locs ls hF hW hN hS hL)
theorem r_ldcS {g : pG} {M : pM} {E : pE} {pc : Nat} {L : pL} {st : List Value} {S : pS} {k n : Nat} {k0 : Nat} (hy : M.1.cls = "TonightCovers$Tape") (hk : k0 < 14) (d : decode M.2.1 pc = .ok (.ldc (100 + 2 * k0), 2)) (kk : PW g M E (pc + 2) L (.ref (1000 + k0) :: st) S k n) : PW g M E pc L st S k n := by
  intro p e s m args below meth c H locs ls hF hW hN hS hL
  exact va_ldcS hF.1 hF.2.1 (hy ▸ hF.2.2.2.2.1) (hF.2.2.2.2.2.2.2.2.2.1.2.2.1 k0 hk) d (kk p e s m args below meth c H locs ls hF hW hN hS hL)
theorem r_gets {g : pG} {M : pM} {E : pE} {pc : Nat} {L : pL} {st : List Value} {S : pS} {k n : Nat} {idx k0 : Nat} (hk : k0 < 3) (d : decode M.2.1 pc = .ok (.getstatic idx, 3)) (hl : Cond.fieldLink M.1.cls idx "TonightCovers" (kN k0) "[I" ∈ gT) (kk : PW g M E (pc + 3) L (.ref (2000 + k0) :: st) S k n) : PW g M E pc L st S k n := by
  intro p e s m args below meth c H locs ls hF hW hN hS hL
  exact va_gets hF.1 hF.2.1 (hF.2.2.2.2.2.2.2.2.2.1.1 k0 hk).1 hS hF.2.2.2.2.1 (hF.2.2.2.2.2.1 _ (wsM_t hl)) (fun _ h => h) d (kk p e s m args below meth c H locs ls hF hW hN hS hL)
theorem r_getsN {g : pG} {M : pM} {E : pE} {pc : Nat} {L : pL} {st : List Value} {S : pS} {k n : Nat} {idx k0 : Nat} (hk : k0 < 3) (d : decode M.2.1 pc = .ok (.getstatic idx, 3)) (hl : (M.1.cls, idx, kN k0) ∈ xFN) (kk : PW g M E (pc + 3) L (.ref (2000 + k0) :: st) S k n) : PW g M E pc L st S k n := by
  intro p e s m args below meth c H locs ls hF hW hN hS hL
  exact va_getsN hF.1 hF.2.1 (hF.K.1 k0 hk).1 hS hF.own (va_Nw.use rfl (hF.K.2.2.2.2.2.2.1 _ hl)) (fun _ h => h) d (kk p e s m args below meth c H locs ls hF hW hN hS hL)
theorem r_taldN {g : pG} {M : pM} {E : pE} {pc : Nat} {L : pL} {st : List Value} {S : pS} {k n : Nat} {x : Int32} {k0 j : Nat} (hk : k0 < 3) (hx : x = nI j) (hj : j < (kL k0).length) (d : decode M.2.1 pc = .ok (.iaload, 1)) (kk : PW g M E (pc + 1) L (.int (kF k0 j) :: st) S k n) : PW g M E pc L (.int x :: .ref (2000 + k0) :: st) S k n := by
  intro p e s m args below meth c H locs ls hF hW hN hS hL
  have hl : (kL k0).length < 2 ^ 31 := by
    rcases (by omega : k0 = 0 ∨ k0 = 1 ∨ k0 = 2) with rfl | rfl | rfl <;> decide
  subst hx
  exact va_ti hF.1 hF.2.1 (hF.2.2.2.2.2.2.2.2.2.1.1 k0 hk).2 hS (vp_in_nI hj hl) (v := .int (kF k0 j)) (by rw [nI_clamp (by omega)]) d (kk p e s m args below meth c H locs ls hF hW hN hS hL)
theorem r_getI {g : pG} {M : pM} {E : pE} {pc : Nat} {L : pL} {st : List Value} {S : pS} {k n : Nat} {idx ci kf i : Nat} {ref : String} (d : decode M.2.1 pc = .ok (.getfield idx, 3)) (hs : S.2.1 i = .inr ci) (hi : i < S.1) (hci : ci < 13) (hk : kf < clN ci) (hrf : isRf (clTy ci kf) = false) (hl : Cond.fieldLink M.1.cls idx ref (clT ci kf).2.1 (clT ci kf).2.2.1 ∈ gT) (hsm : ref = (clT ci kf).1 ∨ Cond.sameField ref (clT ci kf).1 (clT ci kf).2.1 (clT ci kf).2.2.1 ∈ gT) (kk : PW g M E (pc + 3) L (.int (S.2.2.2 i kf) :: st) S k n) : PW g M E pc L (.ref i :: st) S k n := by
  intro p e s m args below meth c H locs ls hF hW hN hS hL
  have hsame : ∀ x, s.fieldFound? (clT ci kf).1 (clT ci kf).2.1 (clT ci kf).2.2.1 = some x → s.fieldFound? ref (clT ci kf).2.1 (clT ci kf).2.2.1 = some x := by
    rcases hsm with h | h
    · intro x hx; rw [h]; exact hx
    · exact u_same (hF.2.2.2.2.2.1 _ (wsM_t h))
  have hv : fdOf (gad g) S i ci kf = .int (S.2.2.2 i kf) := by unfold fdOf; rw [if_neg (by rw [hrf]; decide)]
  have h := kk p e s m args below meth c H locs ls hF hW hN hS hL
  exact va_get hF.1 hF.2.1 (Ts := wsM M) hF.2.2.2.2.2.1 (fun w h => wsM_t (cl_in hci w h)) hF.2.2.2.2.1 hW.K hW.P i ((wsOf_get hi).trans (by rw [cellOf_o hs])) (cl_some hci) kf hk (hF.2.2.2.2.2.1 _ (wsM_t hl)) hsame (fsOf_get hk) d (by rw [hv]; exact h)
theorem r_getR {g : pG} {M : pM} {E : pE} {pc : Nat} {L : pL} {st : List Value} {S : pS} {k n : Nat} {q : Nat} {idx ci kf i : Nat} {ref : String} (d : decode M.2.1 pc = .ok (.getfield idx, 3)) (hs : S.2.1 i = .inr ci) (hi : i < S.1) (hci : ci < 13) (hk : kf < clN ci) (hrf : isRf (clTy ci kf) = true) (hl : Cond.fieldLink M.1.cls idx ref (clT ci kf).2.1 (clT ci kf).2.2.1 ∈ gT) (hsm : ref = (clT ci kf).1 ∨ Cond.sameField ref (clT ci kf).1 (clT ci kf).2.1 (clT ci kf).2.2.1 ∈ gT) (hr : S.2.2.1 i kf = some q) (kk : PW g M E (pc + 3) L (.ref q :: st) S k n) : PW g M E pc L (.ref i :: st) S k n := by
  intro p e s m args below meth c H locs ls hF hW hN hS hL
  have hsame : ∀ x, s.fieldFound? (clT ci kf).1 (clT ci kf).2.1 (clT ci kf).2.2.1 = some x → s.fieldFound? ref (clT ci kf).2.1 (clT ci kf).2.2.1 = some x := by
    rcases hsm with h | h
    · intro x hx; rw [h]; exact hx
    · exact u_same (hF.2.2.2.2.2.1 _ (wsM_t h))
  have hv : fdOf (gad g) S i ci kf = .ref (gad g q) := by unfold fdOf; rw [if_pos hrf, hr]; rfl
  have h := kk p e s m args below meth c H locs ls hF hW hN hS hL
  exact va_get hF.1 hF.2.1 (Ts := wsM M) hF.2.2.2.2.2.1 (fun w h => wsM_t (cl_in hci w h)) hF.2.2.2.2.1 hW.K hW.P i ((wsOf_get hi).trans (by rw [cellOf_o hs])) (cl_some hci) kf hk (hF.2.2.2.2.2.1 _ (wsM_t hl)) hsame (fsOf_get hk) d (by rw [hv]; exact h)
theorem r_putI {g : pG} {M : pM} {E : pE} {pc : Nat} {L : pL} {st : List Value} {S : pS} {k n : Nat} {v : Int32} {idx ci kf i : Nat} {ref : String} (d : decode M.2.1 pc = .ok (.putfield idx, 3)) (hs : S.2.1 i = .inr ci) (hi : i < S.1) (hci : ci < 13) (hk : kf < clN ci) (hrf : isRf (clTy ci kf) = false) (hl : Cond.fieldLink M.1.cls idx ref (clT ci kf).2.1 (clT ci kf).2.2.1 ∈ gT) (hsm : ref = (clT ci kf).1 ∨ Cond.sameField ref (clT ci kf).1 (clT ci kf).2.1 (clT ci kf).2.2.1 ∈ gT) (hfin : (clT ci kf).2.2.2 = false) (hn : narrow (clTy ci kf) (.int v) = .int v) (hfit : fits (clTy ci kf) (.int v) = true) (kk : PW g M E (pc + 3) L st (mSet S i kf v) k n) : PW g M E pc L (.int v :: .ref i :: st) S k n := by
  intro p e s m args below meth c H locs ls hF hW hN hS hL
  have hsame : ∀ x, s.fieldFound? (clT ci kf).1 (clT ci kf).2.1 (clT ci kf).2.2.1 = some x → s.fieldFound? ref (clT ci kf).2.1 (clT ci kf).2.2.1 = some x := by
    rcases hsm with h | h
    · intro x hx; rw [h]; exact hx
    · exact u_same (hF.2.2.2.2.2.1 _ (wsM_t h))
  refine va_put hF.1 hF.2.1 (Ts := wsM M) hF.2.2.2.2.2.1 (fun w h => wsM_t (cl_in hci w h)) (clTy ci) (cl_ty hci) (cl_nm hci) hF.2.2.2.2.1 hW.K hW.P hW.D hS i ((wsOf_get hi).trans (by rw [cellOf_o hs])) (cl_some hci) kf hk (hF.2.2.2.2.2.1 _ (wsM_t hl)) hsame hfin (cl_ty hci kf hk) hn hfit (by rw [fsOf_len]; exact hk) d (fun H1 locs1 hP1 hD1 hS1 => ?_)
  have e1 : (fsOf (gad g) S i ci).set kf (.int v) = fsOf (gad g) (mSet S i kf v) i ci := fsOf_set (by unfold fdOf mSet; rw [if_neg (by rw [hrf]; decide)]; simp [upd]) (fun j hj => by unfold fdOf mSet; simp [upd, hj])
  have e2 : (wsOf g.2.2.1 (gad g) S).set i (gad g i, .inr (ci, (fsOf (gad g) S i ci).set kf (.int v))) = wsOf g.2.2.1 (gad g) (mSet S i kf v) := wsOf_set rfl (by rw [e1]; exact cellOf_o hs) (fun j hj => cellOf_cong rfl rfl (by simp [mSet, hj]))
  change va_P g.2.1 vwCl ((wsOf g.2.2.1 (gad g) S).set i (gad g i, .inr (ci, (fsOf (gad g) S i ci).set kf (.int v)))) H1 at hP1
  rw [e2] at hP1
  exact kk p e s m args below meth c H1 locs1 ls hF ⟨hW.1, hW.2.1, hP1, hW.K⟩ hN hS1 hL
