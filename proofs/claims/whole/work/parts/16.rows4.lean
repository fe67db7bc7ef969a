/-! ===== rows: new cells ===== -/
theorem ad_new {ad : Nat → Nat} (h : adOk ad) {n q : Nat} (hn : n ≤ 900) (h1 : ad 0 ≤ q) (h2 : q < ad n + 1) (h3 : ∀ i, i < n → q ≠ ad i) : q = ad n := by
  have e := h n (by omega)
  rw [e] at h2 ⊢
  by_cases c : q < ad 0 + n
  · exfalso
    have e2 := h (q - ad 0) (by omega)
    exact h3 (q - ad 0) (by omega) (by omega)
  · omega
theorem cl_def {ci : Nat} (h : ci < 13) : ∀ k, k < clN ci → defaultValue (clTy ci k) = if isRf (clTy ci k) = true then .null else .int 0 := by
  rcases (by omega : ci = 0 ∨ ci = 1 ∨ ci = 2 ∨ ci = 3 ∨ ci = 4 ∨ ci = 5 ∨ ci = 6 ∨ ci = 7 ∨ ci = 8 ∨ ci = 9 ∨ ci = 10 ∨ ci = 11 ∨ ci = 12) with rfl | rfl | rfl | rfl | rfl | rfl | rfl | rfl | rfl | rfl | rfl | rfl | rfl <;> decide +kernel
theorem new_at {g : pG} {S : pS} {e0 : (Nat × Nat) ⊕ Nat} {q : Nat} {e : va_E} {s T : State} {H1 : Heap} {k n : Nat} {p : Program} {l : Launch} {ev : Env} {R : Room} {m : MethodId} {args : Array Value} {below : List Frame} {meth : Method} {c : Code} {locs : List Loc} (ha : adOk (gad g)) (hn : S.1 ≤ 899) (hN : s.heap.size + k = gad g S.1)
    (hP : va_P g.2.1 vwCl (wsOf g.2.2.1 (gad g) S ++ [(q, e)]) H1) (hD : va_D (pA g) (wsOf g.2.2.1 (gad g) S ++ [(q, e)])) (he : cellOf g.2.2.1 (gad g) (mNew S e0) S.1 = e) (hT : T.heap = H1) (X : Stand p l ev R s m args below meth c T locs (k + 1) n) :
    q = gad g S.1 ∧ va_P g.2.1 vwCl (wsOf g.2.2.1 (gad g) (mNew S e0)) H1 ∧ s.heap.size + (k + 1) = gad g (mNew S e0).1 := by
  have hlast : (wsOf g.2.2.1 (gad g) S ++ [(q, e)])[S.1]? = some (q, e) := by
    rw [List.getElem?_append_right (by rw [wsOf_len]; exact Nat.le_refl _), wsOf_len, Nat.sub_self]; rfl
  have h1 : T.heap.size ≤ s.heap.size + (k + 1) := X.same.2.2.1
  rw [hT] at h1
  have h2 := (hP S.1 _ hlast).lt
  simp only at h2
  have h3 : q = gad g S.1 := ad_new ha (by omega) (hD.2 S.1 _ hlast) (by omega) (fun i hi z => by
    have h4 : (wsOf g.2.2.1 (gad g) S ++ [(q, e)])[i]? = some (gad g i, cellOf g.2.2.1 (gad g) S i) := by
      rw [List.getElem?_append_left (by rw [wsOf_len]; exact hi), wsOf_get hi]
    have h5 := hD.1 i S.1 _ _ h4 hlast z.symm
    omega)
  refine ⟨h3, ?_, ?_⟩
  · rw [h3] at hP
    rwa [wsOf_push (S' := mNew S e0) rfl he (fun j hj => cellOf_cong (by simp [mNew, Nat.ne_of_lt hj]) (by simp [mNew, Nat.ne_of_lt hj]) (by simp [mNew, Nat.ne_of_lt hj]))] at hP
  · have e1 := ha S.1 (by omega)
    have e2 := ha (S.1 + 1) (by omega)
    show _ = gad g (S.1 + 1)
    omega
theorem r_new {g : pG} {M : pM} {E : pE} {pc : Nat} {L : pL} {st : List Value} {S : pS} {k n : Nat} {idx ci : Nat} (d : decode M.2.1 pc = .ok (.new idx, 3)) (hci : ci < 13) (hl : Cond.classLink M.1.cls idx (clC ci) ∈ gT) (hin : Cond.instantiable (clC ci) (clN ci) ∈ gT) (hini : Cond.initialized (clC ci) ∈ gT) (hn9 : S.1 ≤ 899) (hc : k + 1 ≤ E.1.cells) (hsl : n + clN ci ≤ E.1.slots)
    (kk : PW g M E (pc + 3) L (.ref S.1 :: st) (mNew S (.inr ci)) (k + 1) (n + clN ci)) : PW g M E pc L st S k n := by
  intro p e s m args below meth c H locs ls hF hW hN hS hL
  have he : cellOf g.2.2.1 (gad g) (mNew S (.inr ci)) S.1 = .inr (ci, fsOf (gad g) (mNew S (.inr ci)) S.1 ci) := cellOf_o (by simp [mNew])
  refine va_new hF.1 hF.2.1 (Ts := wsM M) hF.2.2.2.2.2.1 (fun w h => wsM_t (cl_in hci w h)) (clTy ci) (cl_ty hci) hF.own (hF.w hl) (hF.w hin) (hF.w hini) hW.K hW.P hW.D hS (fun q h => Nat.le_trans hF.lo h) (cl_some hci) (fs := fsOf (gad g) (mNew S (.inr ci)) S.1 ci) (fun j hj => ?_) hc hsl d (fun q H1 hP1 hD1 hS1 => ?_)
  · rw [cl_def hci j hj]
    unfold vp_V
    rw [List.getD_eq_getElem?_getD, fsOf_get hj]
    simp only [Option.getD_some, fdOf, mNew, if_true, Option.map_none, va_rf]
  · intro T hT X
    obtain ⟨rfl, hP2, hN2⟩ := new_at (e0 := .inr ci) hW.1 hn9 hN hP1 hD1 he hT X
    exact kk p e s m args below meth c H1 locs ls hF ⟨hW.1, Nat.succ_le_succ hn9, hP2, hW.K⟩ hN2 hS1 hL T hT X
theorem r_newA {g : pG} {M : pM} {E : pE} {pc : Nat} {L : pL} {st : List Value} {S : pS} {k n : Nat} {x : Int32} {N t : Nat} {atype : ArrayType} {ty : FieldType} (d : decode M.2.1 pc = .ok (.newarray atype, 2)) (hty : newarray.typeOf atype = ty) (ht : t < 3) (htt : (tysOf g.2.2.1)[t]? = some (g.2.2.1 t, ty)) (hw : Cond.arrayClass ty ∈ gT) (hdef : defaultValue ty = .int 0) (hprim : ∀ (U : State) (c1 c2 : ClassId), va_RA U c1 ty → va_RA U c2 ty → c1 = c2) (hx : x = nI N) (hN4 : N * componentBytes ty ≤ 536870912) (hN31 : N ≤ 2147483647) (hn9 : S.1 ≤ 899) (hc : k + 1 ≤ E.1.cells) (hsl : n + N ≤ E.1.slots)
    (kk : PW g M E (pc + 2) L (.ref S.1 :: st) (mNew S (.inl (t, N))) (k + 1) (n + N)) : PW g M E pc L (.int x :: st) S k n := by
  intro p e s m args below meth c H locs ls hF hW hN hS hL
  subst hx
  refine va_newa hF.1 hF.2.1 (hty ▸ hF.w hw) hty hW.K hW.P hW.D hS (fun q h => Nat.le_trans hF.lo h) (N' := N) (a0 := (N, .inl (fun _ => 0))) (fun cA => by rw [vp_cell_i, hdef]) (nI_pos (by omega)) (nI_clamp (by omega)) hN4 hc hsl d (fun q cA' H1 hK1 hP1 hD1 hS1 => ?_)
  have e1 : cA' = g.2.2.1 t := hprim s cA' _ (hK1.2 5 (cA', ty) (by rfl)).2 (hW.K.2 t _ htt).2
  subst e1
  have he : cellOf g.2.2.1 (gad g) (mNew S (.inl (t, N))) S.1 = .inl (g.2.2.1 t, N, .inl (fun _ => 0)) := by
    rw [cellOf_a (S := mNew S (.inl (t, N))) (t := t) (n := N) (by simp [mNew]) ht]
    simp [mNew]
  intro T hT X
  obtain ⟨rfl, hP2, hN2⟩ := new_at (e0 := .inl (t, N)) hW.1 hn9 hN hP1 hD1 he hT X
  exact kk p e s m args below meth c H1 locs ls hF ⟨hW.1, Nat.succ_le_succ hn9, hP2, hW.K⟩ hN2 hS1 hL T hT X
theorem ra_int (U : State) (c1 c2 : ClassId) (h1 : va_RA U c1 .int) (h2 : va_RA U c2 .int) : c1 = c2 := Option.some.inj (Eq.trans (Eq.symm h1) h2)
theorem ra_byte (U : State) (c1 c2 : ClassId) (h1 : va_RA U c1 .byte) (h2 : va_RA U c2 .byte) : c1 = c2 := Option.some.inj (Eq.trans (Eq.symm h1) h2)
theorem ra_char (U : State) (c1 c2 : ClassId) (h1 : va_RA U c1 .char) (h2 : va_RA U c2 .char) : c1 = c2 := Option.some.inj (Eq.trans (Eq.symm h1) h2)
theorem r_newQ {g : pG} {M : pM} {E : pE} {pc : Nat} {L : pL} {st : List Value} {S : pS} {k n : Nat} {x : Int32} {idx N t : Nat} {C : String} (d : decode M.2.1 pc = .ok (.anewarray idx, 3)) (ht : ¬ t < 3) (htt : (tysOf g.2.2.1)[t]? = some (g.2.2.1 t, .object C)) (hl : Cond.classLink M.1.cls idx C ∈ gT) (hao : ∀ U : State, KC g U → va_AO C U) (hx : x = nI N) (hN4 : N * 4 ≤ 536870912) (hn9 : S.1 ≤ 899) (hc : k + 1 ≤ E.1.cells) (hsl : n + N ≤ E.1.slots)
    (kk : PW g M E (pc + 3) L (.ref S.1 :: st) (mNew S (.inl (t, N))) (k + 1) (n + N)) : PW g M E pc L (.int x :: st) S k n := by
  intro p e s m args below meth c H locs ls hF hW hN hS hL
  subst hx
  refine va_newq hF.1 hF.2.1 hF.own (hF.w hl) (hao s hF.K) hW.K hW.P hW.D hS (fun q h => Nat.le_trans hF.lo h) (N' := N) (nI_pos (by omega)) (nI_clamp (by omega)) hN4 hc hsl d (fun q cA' H1 hK1 hP1 hD1 hS1 => ?_)
  have e1 : cA' = g.2.2.1 t := by
    obtain ⟨_, _, _, _, _, h1⟩ := (hK1.2 5 (cA', .object C) (by rfl)).2
    obtain ⟨_, _, _, _, _, h2⟩ := (hW.K.2 t _ htt).2
    exact Option.some.inj (h1.symm.trans h2)
  subst e1
  have he : cellOf g.2.2.1 (gad g) (mNew S (.inl (t, N))) S.1 = .inl (g.2.2.1 t, N, .inr (.inr (.inr (.inr (fun _ => none))))) := by
    rw [cellOf_q (S := mNew S (.inl (t, N))) (t := t) (n := N) (by simp [mNew]) ht]
    simp [mNew]
  intro T hT X
  obtain ⟨rfl, hP2, hN2⟩ := new_at (e0 := .inl (t, N)) hW.1 hn9 hN hP1 hD1 he hT X
  exact kk p e s m args below meth c H1 locs ls hF ⟨hW.1, Nat.succ_le_succ hn9, hP2, hW.K⟩ hN2 hS1 hL T hT X
/-! ===== rows: Object.<init>, returns ===== -/
theorem r_objInit {g : pG} {M : pM} {E : pE} {pc : Nat} {L : pL} {st : List Value} {S : pS} {k n : Nat} {idx b : Nat} (d : decode M.2.1 pc = .ok (.invokespecial idx, 3)) (hl : Cond.methodLink M.1.cls idx Lib.objectInit ∈ gT) (hi : Cond.instanceMethod Lib.objectInit ∈ gT) (hc : Cond.code Lib.objectInit ⟨#[0xb1]⟩ 1 none ∈ gT) (hsum : (st.map fun v => v.category).sum ≤ 8) (h1 : 1 ≤ E.1.frames) (h2 : 20 ≤ E.1.locals)
    (kk : PW g M E (pc + 3) L st S k n) : PW g M E pc L (.ref b :: st) S k n := by
  intro p e s m args below meth c H locs ls hF hW hN hS hL
  have hs2 : ((st.map (vr (gad g))).map fun v => v.category).sum ≤ 8 := by
    rw [List.map_map]
    have e : ((fun v : Value => v.category) ∘ vr (gad g)) = fun v => v.category := by funext v; exact vr_cat _ v
    rw [e]; exact hsum
  have hr := lv_room (m := m) (pc := pc) (ls := ls) (rest := (Value.ref b :: st).map (vr (gad g))) hs2
  exact W.objInit hF.1 hF.2.1 hF.own (hF.w hl) (hF.w hi) (hF.w hc) (g := F0 m pc ls ((Value.ref b :: st).map (vr (gad g)))) rfl (hL.1.trans hF.2.2.2.1.symm) (a := gad g b) (rest := st.map (vr (gad g))) rfl d h1 (by omega) (kk p e s m args below meth c H locs ls hF hW hN hS hL)
theorem ret_Q {g : pG} {M : pM} {n0 d mc ms : Nat} {Post : Option Value → pS → Prop} {S : pS} {p : Program} {s : State} {m : MethodId} {args : Array Value} {meth : Method} {c : Code} {H : Heap} {locs : List Loc} {r : Option Value} (hF : Fx g M (eN g n0 d mc ms Post) p s m args meth c) (hW : Wd g S s H) (hN : s.heap.size + mc = gad g S.1) (hS : va_S (pA g) s.heap H locs) (hp : Post r S) :
    ∀ t : State, t.heap = H → s.WarmedH t.vm → pQ g n0 mc Post args s (.returned (r.map (vr (gad g)))) t := by
  intro t ht hWm
  obtain ⟨hz, h9⟩ := hF.2.2.2.2.2.2.2.2.1
  have e1 := hW.1 S.1 (by have := hW.2.1; omega)
  have e2 := hW.1 n0 (by omega)
  refine ⟨⟨r, S, rfl, hp, by omega, ?_⟩, hS.F ht⟩
  rw [ht]
  exact hW.moved hWm.alike
theorem r_iret {g : pG} {M : pM} {n0 d0 mc ms : Nat} {Post : Option Value → pS → Prop} {pc : Nat} {L : pL} {S : pS} {n : Nat} {v : Int32} (d : decode M.2.1 pc = .ok (.ireturn, 1)) (hr : M.2.2.2 = some .int) (hn : n ≤ ms) (hp : Post (some (.int v)) S) : PW g M (eN g n0 d0 mc ms Post) pc L [.int v] S mc n := by
  intro p e s m args below meth c H locs ls hF hW hN hS hL
  exact W.widen (Nat.le_refl _) hn (W.iret hF.1 hF.2.1 (hF.2.2.1.trans hr) (ret_Q hF hW hN hS hp) hS.2.2 d hF.2.2.2.2.2.2.1)
theorem r_zret {g : pG} {M : pM} {n0 d0 mc ms : Nat} {Post : Option Value → pS → Prop} {pc : Nat} {L : pL} {S : pS} {n : Nat} {v : Int32} {ty : FieldType} (d : decode M.2.1 pc = .ok (.ireturn, 1)) (hr : M.2.2.2 = some ty) (hnr : narrow ty (.int v) = .int v) (hn : n ≤ ms) (hp : Post (some (.int v)) S) : PW g M (eN g n0 d0 mc ms Post) pc L [.int v] S mc n := by
  intro p e s m args below meth c H locs ls hF hW hN hS hL
  exact W.widen (Nat.le_refl _) hn (W.zret hF.1 hF.2.1 (hF.2.2.1.trans hr) hnr (ret_Q hF hW hN hS hp) hS.2.2 d hF.2.2.2.2.2.2.1)
theorem r_lret {g : pG} {M : pM} {n0 d0 mc ms : Nat} {Post : Option Value → pS → Prop} {pc : Nat} {L : pL} {S : pS} {n : Nat} {v : Int64} (d : decode M.2.1 pc = .ok (.lreturn, 1)) (hr : M.2.2.2 = some .long) (hn : n ≤ ms) (hp : Post (some (.long v)) S) : PW g M (eN g n0 d0 mc ms Post) pc L [.long v] S mc n := by
  intro p e s m args below meth c H locs ls hF hW hN hS hL
  exact W.widen (Nat.le_refl _) hn (W.lret hF.1 hF.2.1 (hF.2.2.1.trans hr) (ret_Q hF hW hN hS hp) hS.2.2 d hF.2.2.2.2.2.2.1)
theorem r_vret {g : pG} {M : pM} {n0 d0 mc ms : Nat} {Post : Option Value → pS → Prop} {pc : Nat} {L : pL} {S : pS} {n : Nat} (d : decode M.2.1 pc = .ok (.return_, 1)) (hr : M.2.2.2 = none) (hn : n ≤ ms) (hp : Post none S) : PW g M (eN g n0 d0 mc ms Post) pc L [] S mc n := by
  intro p e s m args below meth c H locs ls hF hW hN hS hL
  exact W.widen (Nat.le_refl _) hn (W.vret hF.1 hF.2.1 (hF.2.2.1.trans hr) (ret_Q (r := none) hF hW hN hS hp) hS.2.2 d hF.2.2.2.2.2.2.1)
theorem r_aret {g : pG} {M : pM} {n0 d0 mc ms : Nat} {Post : Option Value → pS → Prop} {pc : Nat} {L : pL} {S : pS} {n q : Nat} {C : String} (d : decode M.2.1 pc = .ok (.areturn, 1)) (hr : M.2.2.2 = some (.object C)) (hn : n ≤ ms) (hp : Post (some (.ref q)) S) : PW g M (eN g n0 d0 mc ms Post) pc L [.ref q] S mc n := by
  intro p e s m args below meth c H locs ls hF hW hN hS hL
  exact W.widen (Nat.le_refl _) hn (W.aret hF.1 hF.2.1 (hF.2.2.1.trans hr) (Or.inl ⟨C, rfl⟩) (Or.inr ⟨gad g q, rfl⟩) (ret_Q (r := some (.ref q)) hF hW hN hS hp) hS.2.2 d hF.2.2.2.2.2.2.1)
