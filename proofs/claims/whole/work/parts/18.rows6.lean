/-! ===== row: System.arraycopy out of a static array of ints that never changes ===== -/
theorem r_acopyT {g : pG} {M : pM} {E : pE} {pc : Nat} {L : pL} {st : List Value} {S : pS} {k n : Nat} {idx k0 q1 n1 N : Nat} (d : decode M.2.1 pc = .ok (.invokestatic idx, 3)) (hl : Cond.methodLink M.1.cls idx arraycopyName ∈ gT) (hnat : Cond.native arraycopyName ∈ gT) (hst : Cond.static arraycopyName ∈ gT) (hini : Cond.initialized "java/lang/System" ∈ gT)
    (hk : k0 < 3) (hs1 : S.2.1 q1 = .inl (0, n1)) (h1 : q1 < S.1) {x : Int32} (hx : x = nI N) (hn0 : N ≤ (kL k0).length) (hn1 : N ≤ n1) (hN31 : N ≤ 2147483647) (hsum : (st.map fun v => v.category).sum ≤ 8) (hf : 1 ≤ E.1.frames) (hlo : 8 + (nativeFrameWords "java/lang/System" "arraycopy" 5 + 11) ≤ E.1.locals)
    (kk : PW g M E (pc + 3) L st (mArr S q1 (va_cpy (kF k0) (S.2.2.2 q1) 0 0 N)) k n) : PW g M E pc L (.int x :: .int 0 :: .ref q1 :: .int 0 :: .ref (2000 + k0) :: st) S k n := by
  intro p e s m args below meth c H locs ls hF hW hN hS hL
  subst hx
  have hcat := cat_map (ad := gad g) hsum
  have z0 : (0 : Int32).toInt = 0 := by decide
  have zc : (0 : Int32).toNatClampNeg = 0 := by decide
  have zN : (nI N).toInt = (N : Int) := nI_toInt (by omega)
  obtain ⟨scr, f1, ⟨f2, cl0, f3, cm0, f4⟩, f5, f6, -, f7, f8⟩ := (hF.K.1 k0 hk).2
  have g0 : H[gad g (2000 + k0)]? = some scr := (hS.2.1 _ (Array.getElem?_eq_some_iff.mp f1).1 f8).trans f1
  have hcell : (wsOf g.2.2.1 (gad g) S)[q1]? = some (gad g q1, .inl (g.2.2.1 0, n1, .inl (S.2.2.2 q1))) := (wsOf_get h1).trans (by rw [cellOf_a hs1 (by decide)])
  have g1 : H[gad g q1]? = some (vp_cell (g.2.2.1 0) (n1, .inl (S.2.2.2 q1))) := hW.P q1 _ hcell
  obtain ⟨-, cl1, f9, cm1, f10⟩ := (hW.K.2 0 (g.2.2.1 0, .int) rfl).1 n1 (fun j => .int (S.2.2.2 q1 j))
  intro T hT X
  obtain ⟨vm', X', step⟩ := X.arraycopy hF.1 hF.own (hF.w hl) (hF.w hnat) (hF.w hst) (hF.w hini) (src := gad g (2000 + k0)) (dst := gad g q1) (cs := scr) (cd := vp_cell (g.2.2.1 0) (n1, .inl (S.2.2.2 q1))) (srcPos := 0) (destPos := 0) (n := nI N) (hT ▸ g0) (hT ▸ g1) f2 (fun _ h => by cases h) f5 (fun h => by cases h) f3 f9 f4 f10 (by simp [refKind]) (by decide) (by decide) (nI_pos (by omega))
    (by rw [z0, zN]; omega)
    (by rw [z0, zN]; show ¬ _ > ((arrV (g.2.2.1 0) n1 (fun j => .int (S.2.2.2 q1 j))).slots.size : Int); rw [arrV_size]; omega)
    (fun vm₁ _ i hi => by
      rw [nI_clamp (by omega)] at hi
      have e : scr.slots.getD ((0 : Int32).toNatClampNeg + i) .null = .int (kF k0 i) := by
        rw [zc, Nat.zero_add, Array.getD_eq_getD_getElem?, f7 i (by omega)]
        rfl
      rw [e]
      exact ⟨rfl, trivial⟩)
    (g := F0 m pc ls ((Value.int (nI N) :: .int 0 :: .ref q1 :: .int 0 :: .ref (2000 + k0) :: st).map (vr (gad g)))) rfl (hL.1.trans hF.2.2.2.1.symm) (rest := st.map (vr (gad g))) rfl (hF.2.1 ▸ d) hf (by show 2 * 0 + _ + _ ≤ _; omega)
  have e1 : copied scr (vp_cell (g.2.2.1 0) (n1, .inl (S.2.2.2 q1))) 0 0 (nI N) = vp_cell (g.2.2.1 0) (n1, .inl (va_cpy (kF k0) (S.2.2.2 q1) 0 0 N)) := by
    have h := va_copiedX (fun z => Value.int z) scr (g.2.2.1 0) (n1 := n1) (dp := 0) (kF k0) (S.2.2.2 q1) (n0 := (kL k0).length) (sp := 0) (n := N) f7 (by omega)
    have h2 : copied scr (vp_cell (g.2.2.1 0) (n1, .inl (S.2.2.2 q1))) 0 0 (nI N) = (vp_cell (g.2.2.1 0) (n1, .inl (S.2.2.2 q1))).storeRun 0 (scr.stretch 0 N) := by
      unfold copied
      rw [zc, nI_clamp (by omega)]
    rw [h2]
    exact h
  rw [e1] at X' step
  have hl1 : gad g q1 < H.size := (Array.getElem?_eq_some_iff.mp g1).1
  generalize hC : vp_cell (g.2.2.1 0) (n1, .inl (va_cpy (kF k0) (S.2.2.2 q1) 0 0 N)) = C at X' step
  have hheap : ((T.setVm vm').setCell (gad g q1) C).heap = H.setIfInBounds (gad g q1) C := by rw [← hT]; rfl
  have oq : ∀ q : Nat, q ≠ gad g q1 → (H.setIfInBounds (gad g q1) C)[q]? = H[q]? := fun q hq => by simp [Array.getElem?_setIfInBounds, Ne.symm hq]
  have hP1 := hW.P.set hW.D hcell (e := .inl (g.2.2.1 0, n1, .inl (va_cpy (kF k0) (S.2.2.2 q1) 0 0 N))) (H1 := H.setIfInBounds (gad g q1) C) (show (H.setIfInBounds (gad g q1) C)[gad g q1]? = some _ by rw [← hC]; simp [Array.getElem?_setIfInBounds, hl1]) oq
  have e2 : (wsOf g.2.2.1 (gad g) S).set q1 (gad g q1, .inl (g.2.2.1 0, n1, .inl (va_cpy (kF k0) (S.2.2.2 q1) 0 0 N))) = wsOf g.2.2.1 (gad g) (mArr S q1 (va_cpy (kF k0) (S.2.2.2 q1) 0 0 N)) := wsOf_set rfl ((cellOf_a (S := mArr S q1 (va_cpy (kF k0) (S.2.2.2 q1) 0 0 N)) hs1 (by decide)).trans (by simp [mArr])) (fun q hq => cellOf_cong rfl rfl (by simp [mArr, hq]))
  rw [e2] at hP1
  have hA1 : pA g (gad g q1) := hW.D.2 q1 _ hcell
  obtain ⟨t, a1, b1⟩ := kk p e s m args below meth c _ _ ls hF ⟨hW.1, hW.2.1, hP1, hW.K⟩ hN ⟨by simp; exact hS.1, fun q i1 i2 => (oq q (fun z => i2 (by rw [z]; exact hA1))).trans (hS.2.1 q i1 i2), fun q hq => by
      rcases List.mem_append.mp hq with h | h
      · exact hS.2.2 q h
      · obtain ⟨z, -, hz⟩ := List.mem_map.mp h
        rw [← hz]
        exact hA1⟩ hL _ hheap X'
  exact ⟨t, step t a1, b1⟩
