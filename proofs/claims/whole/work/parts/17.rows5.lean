/-! ===== rows: calls ===== -/
/-- what is known of a method: its code and class among the words, how many arguments -/
def mF (M : pM) (n : Nat) : Prop := Cond.code M.1 M.2.1 M.2.2.1 M.2.2.2 ∈ gT ∧ Cond.initialized M.1.cls ∈ gT ∧ (M.1.cls ≠ "java/lang/invoke/MethodHandle" ∧ M.1.cls ≠ "java/lang/invoke/VarHandle" ∧ (parseMethodDescriptor M.1.desc).map (fun d => d.parameters.length) = some n)
theorem cat_map {ad : Nat → Nat} {st : List Value} (h : (st.map fun v => v.category).sum ≤ 8) : ((st.map (vr ad)).map fun v => v.category).sum ≤ 8 := by
  rw [List.map_map]
  have e : ((fun v : Value => v.category) ∘ vr ad) = fun v => v.category := by funext v; exact vr_cat _ v
  rw [e]; exact h
theorem r_after {g : pG} {p : Program} {e : Env} {R : Room} {s : State} {m : MethodId} {args : Array Value} {below : List Frame} {meth : Method} {c : Code} {H : Heap} {locs : List Loc} {k n mc ms pc : Nat} {ls : Array Slot} {stk : List Value} {st : List Value} {S : pS} {Q : State → Prop} {Post : Option Value → pS → Prop} {aa : Array Value}
    (hr : va_Run p g.1 e R s m args below meth c H locs k n mc ms (F0 m pc ls stk) (st.map (vr (gad g))) (pQ g S.1 mc Post aa) (pA g)) (hN : s.heap.size + k = gad g S.1) (ha : adOk (gad g)) (hn9 : S.1 ≤ 900) (hS : va_S (pA g) s.heap H locs)
    (kk : ∀ (v : Option Value) (S' : pS) (H1 : Heap) (locs1 : List Loc), Post v S' → Wd g S' s H1 → S'.1 = S.1 + mc → s.heap.size + (k + mc) = gad g S'.1 → va_S (pA g) s.heap H1 locs1 → W p g.1 e R s m args below meth c H1 locs1 (k + mc) (n + ms) Q (F0 m (pc + 3) ls ((v.toList ++ st).map (vr (gad g))))) : W p g.1 e R s m args below meth c H locs k n Q (F0 m pc ls stk) := by
  intro T hT X
  obtain ⟨v, st₀, t, T', Lc, h0, X', hL, e1, e2, ⟨⟨v', S', hv, hp, hS1, hW⟩, hz, hk⟩, go⟩ := hr T hT X
  cases hv
  rw [h0] at hz hk
  have al : s.vm.Alike t.vm := by rw [← e2]; exact X'.warmed.alike
  have hW' : Wd g S' s T'.heap := by
    rw [e1]
    exact ⟨hW.1, hW.2.1, hW.P, hW.K.moved al.symm⟩
  have hN' : s.heap.size + (k + mc) = gad g S'.1 := by
    have f1 := ha S.1 (by omega)
    have f2 := ha S'.1 (by have := hW.2.1; omega)
    omega
  obtain ⟨t2, a1, b1⟩ := kk v' S' T'.heap (locs ++ Lc) hp hW' hS1 hN' ⟨Nat.le_trans hS.1 (by rw [e1]; exact hz), fun q h1 h2 => by
      rw [e1, hk q (Nat.lt_of_lt_of_le h1 hS.1) h2]
      exact hS.2.1 q h1 h2, fun q hq => by
      rcases List.mem_append.mp hq with h | h
      · exact hS.2.2 q h
      · exact hL q h⟩ T' rfl X'
  refine ⟨t2, go t2 ?_, b1⟩
  have e3 : (v'.toList ++ st).map (vr (gad g)) = (v'.map (vr (gad g))).toList ++ st.map (vr (gad g)) := by cases v' <;> rfl
  rw [e3] at a1
  exact a1
theorem pre_S {g : pG} {av : List Value} {S : pS} {s : State} {H : Heap} {locs : List Loc} (hW : Wd g S s H) (hK : KC g s) (hS : va_S (pA g) s.heap H locs) (hz : H.size = gad g S.1) : PreS s H (pP g av S) (av.map (vr (gad g))) :=
  ⟨pP_blind, fun U hU hWm => ⟨rfl, by rw [hU]; exact hW.moved hWm.alike, hK.warm hWm (by rw [hU]; exact ⟨hS.1, hS.2.1⟩), by rw [hU]; exact hz⟩⟩
theorem pre_V {g : pG} {av : List Value} {S : pS} {s : State} {H : Heap} {locs : List Loc} {b ci : Nat} {C : String} (hW : Wd g S s H) (hK : KC g s) (hS : va_S (pA g) s.heap H locs) (hz : H.size = gad g S.1) (hb : b < S.1) (hs : S.2.1 b = .inr ci) (hci : ci < 13) (hC : C = clC ci) : PreV s H C (gad g b) (pP g (.ref b :: av) S) (av.map (vr (gad g))) :=
  ⟨pP_blind, by rw [hC]; exact va_recv hW.K hW.P (cl_some hci) ((wsOf_get hb).trans (by rw [cellOf_o hs])), (pre_S (av := .ref b :: av) hW hK hS hz).2⟩

theorem r_callV {g : pG} {M M2 : pM} {E : pE} {pc : Nat} {L : pL} {st av stk : List Value} {S : pS} {k n d2 mc ms n2 idx : Nat} {Post : Option Value → pS → Prop} {b ci : Nat} (d : decode M.2.1 pc = .ok (.invokevirtual idx, 3)) (hM : MS g M2 d2 mc ms (.ref b :: av) S Post) (hf : mF M2 n2) (hi : Cond.instanceMethod M2.1 ∈ gT) (hse : Cond.selects (clC ci) M2.1 M2.1 ∈ gT) (hl : Cond.methodLink M.1.cls idx M2.1 ∈ gT) (hn : av.length = n2) (hst : stk = av.reverse ++ .ref b :: st) (hb : b < S.1) (hs : S.2.1 b = .inr ci) (hci : ci < 13) (hC : M2.1.cls = clC ci) (hsum : (st.map fun v => v.category).sum ≤ 8) (hR : d2 + 1 ≤ E.1.frames ∧ 8 + (M2.2.2.1 + 11) + 200 * d2 ≤ E.1.locals) (hcs : k + mc ≤ E.1.cells ∧ n + ms ≤ E.1.slots) (kk : ∀ v S', Post v S' → S'.1 = S.1 + mc → PW g M E (pc + 3) L (v.toList ++ st) S' (k + mc) (n + ms)) : PW g M E pc L stk S k n := by
  intro p e s m args below meth c H locs ls hF hW hN hS hL
  subst hst
  have hcat := lv_room (m := m) (pc := pc) (ls := ls) (rest := (av.reverse ++ .ref b :: st).map (vr (gad g))) (cat_map (ad := gad g) hsum)
  intro T hT X
  have hz := hW.size hF.lo hN hS hT X
  have hr : va_Run p g.1 e E.1 s m args below meth c H locs k n mc ms (F0 m pc ls ((av.reverse ++ .ref b :: st).map (vr (gad g)))) (st.map (vr (gad g))) (pQ g S.1 mc Post _) (pA g) := va_runV (C := clC ci) (As := av.map (vr (gad g))) hF.fix hM (cwV n2 hF.2.2.2.2.2.1 (good_app hf.1 (by intro w hw; simp only [List.mem_cons, List.not_mem_nil, or_false] at hw; rcases hw with rfl | rfl | rfl | rfl; exact hl; exact hi; exact hse; exact hC ▸ hf.2.1)) rfl rfl rfl ⟨hC, hf.2.2⟩ hR) (pre_V hW hF.K hS hz hb hs hci rfl) rfl (by rw [List.length_map]; exact hn) hL.1 (by simp [vr]) hcat d hcs
  exact r_after hr hN hW.1 hW.2.1 hS (fun v S' H1 locs1 hp hW1 hS1 hN1 hSS => kk v S' hp hS1 p e s m args below meth c H1 locs1 ls hF hW1 hN1 hSS hL) T hT X
theorem r_callU {g : pG} {M M2 : pM} {E : pE} {pc : Nat} {L : pL} {st av stk : List Value} {S : pS} {k n d2 mc ms n2 idx : Nat} {Post : Option Value → pS → Prop} {b ci : Nat} {x : MethodName} {owner : String} (d : decode M.2.1 pc = .ok (.invokevirtual idx, 3)) (hM : MS g M2 d2 mc ms (.ref b :: av) S Post) (hf : mF M2 n2) (hi : Cond.instanceMethod M2.1 ∈ gT) (hse : Cond.selects (clC ci) x M2.1 ∈ gT) (hl : Cond.methodLink M.1.cls idx x ∈ gT) (hsm : Cond.sameMethod x.cls owner x.name x.desc ∈ gT) (hyx : M2.1 = ⟨owner, x.name, x.desc⟩) (hn : av.length = n2) (hst : stk = av.reverse ++ .ref b :: st) (hb : b < S.1) (hs : S.2.1 b = .inr ci) (hci : ci < 13) (hsum : (st.map fun v => v.category).sum ≤ 8) (hR : d2 + 1 ≤ E.1.frames ∧ 8 + (M2.2.2.1 + 11) + 200 * d2 ≤ E.1.locals) (hcs : k + mc ≤ E.1.cells ∧ n + ms ≤ E.1.slots) (kk : ∀ v S', Post v S' → S'.1 = S.1 + mc → PW g M E (pc + 3) L (v.toList ++ st) S' (k + mc) (n + ms)) : PW g M E pc L stk S k n := by
  intro p e s m args below meth c H locs ls hF hW hN hS hL
  subst hst
  have hcat := lv_room (m := m) (pc := pc) (ls := ls) (rest := (av.reverse ++ .ref b :: st).map (vr (gad g))) (cat_map (ad := gad g) hsum)
  intro T hT X
  have hz := hW.size hF.lo hN hS hT X
  have hr : va_Run p g.1 e E.1 s m args below meth c H locs k n mc ms (F0 m pc ls ((av.reverse ++ .ref b :: st).map (vr (gad g)))) (st.map (vr (gad g))) (pQ g S.1 mc Post _) (pA g) := va_runU (x := x) (owner := owner) (C := clC ci) (As := av.map (vr (gad g))) hF.fix hM (va_cwU n2 hF.2.2.2.2.2.1 (good_app hf.1 (by intro w hw; simp only [List.mem_cons, List.not_mem_nil, or_false] at hw; rcases hw with rfl | rfl | rfl | rfl | rfl; exact hl; exact hsm; exact hse; exact hi; exact hf.2.1)) rfl rfl rfl hyx ⟨by have h := hf.2.2.1; rw [hyx] at h; exact h, by have h := hf.2.2.2.1; rw [hyx] at h; exact h, by have h := hf.2.2.2.2; rw [hyx] at h; exact h⟩ hR) (pre_V hW hF.K hS hz hb hs hci rfl) rfl (by rw [List.length_map]; exact hn) hL.1 (by simp [vr]) hcat d hcs
  exact r_after hr hN hW.1 hW.2.1 hS (fun v S' H1 locs1 hp hW1 hS1 hN1 hSS => kk v S' hp hS1 p e s m args below meth c H1 locs1 ls hF hW1 hN1 hSS hL) T hT X
theorem r_callO {g : pG} {M M2 : pM} {E : pE} {pc : Nat} {L : pL} {st av stk : List Value} {S : pS} {k n d2 mc ms n2 idx : Nat} {Post : Option Value → pS → Prop} {b ci : Nat} {x : MethodName} {owner : String} {b0 : ByteArray} {m0 : Nat} {r0 : Option FieldType} (d : decode M.2.1 pc = .ok (.invokevirtual idx, 3)) (hM : MS g M2 d2 mc ms (.ref b :: av) S Post) (hf : mF M2 n2) (hi : Cond.instanceMethod M2.1 ∈ gT) (hse : Cond.selects (clC ci) x M2.1 ∈ gT) (hl : Cond.methodLink M.1.cls idx x ∈ gT) (hsm : Cond.sameMethod x.cls owner x.name x.desc ∈ gT) (hi0 : Cond.instanceMethod ⟨owner, x.name, x.desc⟩ ∈ gT) (h0 : Cond.code ⟨owner, x.name, x.desc⟩ b0 m0 r0 ∈ gT) (how : owner ≠ "java/lang/invoke/MethodHandle" ∧ owner ≠ "java/lang/invoke/VarHandle") (hds : x.desc = M2.1.desc) (hn : av.length = n2) (hst : stk = av.reverse ++ .ref b :: st) (hb : b < S.1) (hs : S.2.1 b = .inr ci) (hci : ci < 13) (hsum : (st.map fun v => v.category).sum ≤ 8) (hR : d2 + 1 ≤ E.1.frames ∧ 8 + (M2.2.2.1 + 11) + 200 * d2 ≤ E.1.locals) (hcs : k + mc ≤ E.1.cells ∧ n + ms ≤ E.1.slots) (kk : ∀ v S', Post v S' → S'.1 = S.1 + mc → PW g M E (pc + 3) L (v.toList ++ st) S' (k + mc) (n + ms)) : PW g M E pc L stk S k n := by
  intro p e s m args below meth c H locs ls hF hW hN hS hL
  subst hst
  have hcat := lv_room (m := m) (pc := pc) (ls := ls) (rest := (av.reverse ++ .ref b :: st).map (vr (gad g))) (cat_map (ad := gad g) hsum)
  intro T hT X
  have hz := hW.size hF.lo hN hS hT X
  have hr : va_Run p g.1 e E.1 s m args below meth c H locs k n mc ms (F0 m pc ls ((av.reverse ++ .ref b :: st).map (vr (gad g)))) (st.map (vr (gad g))) (pQ g S.1 mc Post _) (pA g) := va_runU (x := x) (owner := owner) (C := clC ci) (As := av.map (vr (gad g))) hF.fix hM (va_cwO n2 hF.2.2.2.2.2.1 (good_app hf.1 (by intro w hw; simp only [List.mem_cons, List.not_mem_nil, or_false] at hw; rcases hw with rfl | rfl | rfl | rfl | rfl | rfl; exact hl; exact hsm; exact hi0; exact hse; exact hi; exact hf.2.1)) rfl rfl rfl (wsM_t h0) ⟨how.1, how.2, by rw [hds]; exact hf.2.2.2.2⟩ hR) (pre_V hW hF.K hS hz hb hs hci rfl) rfl (by rw [List.length_map]; exact hn) hL.1 (by simp [vr]) hcat d hcs
  exact r_after hr hN hW.1 hW.2.1 hS (fun v S' H1 locs1 hp hW1 hS1 hN1 hSS => kk v S' hp hS1 p e s m args below meth c H1 locs1 ls hF hW1 hN1 hSS hL) T hT X
theorem r_callS {g : pG} {M M2 : pM} {E : pE} {pc : Nat} {L : pL} {st av stk : List Value} {S : pS} {k n d2 mc ms n2 idx : Nat} {Post : Option Value → pS → Prop} (d : decode M.2.1 pc = .ok (.invokestatic idx, 3)) (hM : MS g M2 d2 mc ms av S Post) (hf : mF M2 n2) (hi : Cond.static M2.1 ∈ gT) (hl : Cond.methodLink M.1.cls idx M2.1 ∈ gT) (hn : av.length = n2) (hst : stk = av.reverse ++ st) (hsum : (st.map fun v => v.category).sum ≤ 8) (hR : d2 + 1 ≤ E.1.frames ∧ 8 + (M2.2.2.1 + 11) + 200 * d2 ≤ E.1.locals) (hcs : k + mc ≤ E.1.cells ∧ n + ms ≤ E.1.slots) (kk : ∀ v S', Post v S' → S'.1 = S.1 + mc → PW g M E (pc + 3) L (v.toList ++ st) S' (k + mc) (n + ms)) : PW g M E pc L stk S k n := by
  intro p e s m args below meth c H locs ls hF hW hN hS hL
  subst hst
  have hcat := lv_room (m := m) (pc := pc) (ls := ls) (rest := (av.reverse ++ st).map (vr (gad g))) (cat_map (ad := gad g) hsum)
  intro T hT X
  have hz := hW.size hF.lo hN hS hT X
  have hr : va_Run p g.1 e E.1 s m args below meth c H locs k n mc ms (F0 m pc ls ((av.reverse ++ st).map (vr (gad g)))) (st.map (vr (gad g))) (pQ g S.1 mc Post _) (pA g) := va_runS (As := av.map (vr (gad g))) hF.fix hM (va_cwS n2 hF.2.2.2.2.2.1 (good_app hf.1 (by intro w hw; simp only [List.mem_cons, List.not_mem_nil, or_false] at hw; rcases hw with rfl | rfl | rfl; exact hl; exact hi; exact hf.2.1)) rfl rfl rfl hf.2.2 hR) (pre_S hW hF.K hS hz) rfl (by rw [List.length_map]; exact hn) hL.1 (by simp [vr]) hcat d hcs
  exact r_after hr hN hW.1 hW.2.1 hS (fun v S' H1 locs1 hp hW1 hS1 hN1 hSS => kk v S' hp hS1 p e s m args below meth c H1 locs1 ls hF hW1 hN1 hSS hL) T hT X
theorem r_callSN {g : pG} {M M2 : pM} {E : pE} {pc : Nat} {L : pL} {st av stk : List Value} {S : pS} {k n d2 mc ms n2 idx : Nat} {Post : Option Value → pS → Prop} (d : decode M.2.1 pc = .ok (.invokestatic idx, 3)) (hM : MS g M2 d2 mc ms av S Post) (hf : mF M2 n2) (hi : Cond.static M2.1 ∈ gT) (hl : (M.1.cls, idx, M2.1) ∈ xMN) (hn : av.length = n2) (hst : stk = av.reverse ++ st) (hsum : (st.map fun v => v.category).sum ≤ 8) (hR : d2 + 1 ≤ E.1.frames ∧ 8 + (M2.2.2.1 + 11) + 200 * d2 ≤ E.1.locals) (hcs : k + mc ≤ E.1.cells ∧ n + ms ≤ E.1.slots) (kk : ∀ v S', Post v S' → S'.1 = S.1 + mc → PW g M E (pc + 3) L (v.toList ++ st) S' (k + mc) (n + ms)) : PW g M E pc L stk S k n := by
  intro p e s m args below meth c H locs ls hF hW hN hS hL
  subst hst
  have hcat := lv_room (m := m) (pc := pc) (ls := ls) (rest := (av.reverse ++ st).map (vr (gad g))) (cat_map (ad := gad g) hsum)
  intro T hT X
  have hz := hW.size hF.lo hN hS hT X
  have hr : va_Run p g.1 e E.1 s m args below meth c H locs k n mc ms (F0 m pc ls ((av.reverse ++ st).map (vr (gad g)))) (st.map (vr (gad g))) (pQ g S.1 mc Post _) (pA g) := va_runSN (host := "TonightCovers") (As := av.map (vr (gad g))) hF.fix hM (⟨va_cnB n2 hF.2.2.2.2.2.1 (good_wsM hf.1) rfl rfl rfl (hF.K.2.2.2.2.2.1 _ hl) (hF.w hf.2.1) hf.2.2 hR, hF.w hi, trivial⟩) (pre_S hW hF.K hS hz) rfl (by rw [List.length_map]; exact hn) hL.1 (by simp [vr]) hcat d hcs
  exact r_after hr hN hW.1 hW.2.1 hS (fun v S' H1 locs1 hp hW1 hS1 hN1 hSS => kk v S' hp hS1 p e s m args below meth c H1 locs1 ls hF hW1 hN1 hSS hL) T hT X
theorem r_callI {g : pG} {M M2 : pM} {E : pE} {pc : Nat} {L : pL} {st av stk : List Value} {S : pS} {k n d2 mc ms n2 idx : Nat} {Post : Option Value → pS → Prop} {b : Nat} (d : decode M.2.1 pc = .ok (.invokespecial idx, 3)) (hM : MS g M2 d2 mc ms (.ref b :: av) S Post) (hf : mF M2 n2) (hi : Cond.instanceMethod M2.1 ∈ gT) (hl : Cond.methodLink M.1.cls idx M2.1 ∈ gT) (hnm : M2.1.name = "<init>") (hrn : M2.2.2.2 = none) (hn : av.length = n2) (hst : stk = av.reverse ++ .ref b :: st) (hsum : (st.map fun v => v.category).sum ≤ 8) (hR : d2 + 1 ≤ E.1.frames ∧ 8 + (M2.2.2.1 + 11) + 200 * d2 ≤ E.1.locals) (hcs : k + mc ≤ E.1.cells ∧ n + ms ≤ E.1.slots) (kk : ∀ v S', Post v S' → S'.1 = S.1 + mc → PW g M E (pc + 3) L (v.toList ++ st) S' (k + mc) (n + ms)) : PW g M E pc L stk S k n := by
  intro p e s m args below meth c H locs ls hF hW hN hS hL
  subst hst
  have hcat := lv_room (m := m) (pc := pc) (ls := ls) (rest := (av.reverse ++ .ref b :: st).map (vr (gad g))) (cat_map (ad := gad g) hsum)
  intro T hT X
  have hz := hW.size hF.lo hN hS hT X
  have hr : va_Run p g.1 e E.1 s m args below meth c H locs k n mc ms (F0 m pc ls ((av.reverse ++ .ref b :: st).map (vr (gad g)))) (st.map (vr (gad g))) (pQ g S.1 mc Post _) (pA g) := va_runI (As := av.map (vr (gad g))) hF.fix hM (cwI n2 hF.2.2.2.2.2.1 (good_wsM hf.1) (by rw [← hrn]; rfl) rfl rfl (hF.w hf.2.1) (hF.w hl) (hF.w hi) hnm hf.2.2 hR) (pre_S (av := .ref b :: av) hW hF.K hS hz) rfl (by rw [List.length_map]; exact hn) hL.1 (by simp [vr]) hcat d hcs
  exact r_after hr hN hW.1 hW.2.1 hS (fun v S' H1 locs1 hp hW1 hS1 hN1 hSS => kk v S' hp hS1 p e s m args below meth c H1 locs1 ls hF hW1 hN1 hSS hL) T hT X
theorem r_callIN {g : pG} {M M2 : pM} {E : pE} {pc : Nat} {L : pL} {st av stk : List Value} {S : pS} {k n d2 mc ms n2 idx : Nat} {Post : Option Value → pS → Prop} {b : Nat} (d : decode M.2.1 pc = .ok (.invokespecial idx, 3)) (hM : MS g M2 d2 mc ms (.ref b :: av) S Post) (hf : mF M2 n2) (hi : Cond.instanceMethod M2.1 ∈ gT) (hl : (M.1.cls, idx, M2.1) ∈ xMN) (hnm : M2.1.name = "<init>") (hrn : M2.2.2.2 = none) (hn : av.length = n2) (hst : stk = av.reverse ++ .ref b :: st) (hsum : (st.map fun v => v.category).sum ≤ 8) (hR : d2 + 1 ≤ E.1.frames ∧ 8 + (M2.2.2.1 + 11) + 200 * d2 ≤ E.1.locals) (hcs : k + mc ≤ E.1.cells ∧ n + ms ≤ E.1.slots) (kk : ∀ v S', Post v S' → S'.1 = S.1 + mc → PW g M E (pc + 3) L (v.toList ++ st) S' (k + mc) (n + ms)) : PW g M E pc L stk S k n := by
  intro p e s m args below meth c H locs ls hF hW hN hS hL
  subst hst
  have hcat := lv_room (m := m) (pc := pc) (ls := ls) (rest := (av.reverse ++ .ref b :: st).map (vr (gad g))) (cat_map (ad := gad g) hsum)
  intro T hT X
  have hz := hW.size hF.lo hN hS hT X
  have hr : va_Run p g.1 e E.1 s m args below meth c H locs k n mc ms (F0 m pc ls ((av.reverse ++ .ref b :: st).map (vr (gad g)))) (st.map (vr (gad g))) (pQ g S.1 mc Post _) (pA g) := va_runIN (host := "TonightCovers") (As := av.map (vr (gad g))) hF.fix hM (⟨va_cnB n2 hF.2.2.2.2.2.1 (good_wsM hf.1) (by rw [← hrn]; rfl) rfl rfl (hF.K.2.2.2.2.2.1 _ hl) (hF.w hf.2.1) hf.2.2 hR, hnm, hF.w hi⟩) (pre_S (av := .ref b :: av) hW hF.K hS hz) rfl (by rw [List.length_map]; exact hn) hL.1 (by simp [vr]) hcat d hcs
  exact r_after hr hN hW.1 hW.2.1 hS (fun v S' H1 locs1 hp hW1 hS1 hN1 hSS => kk v S' hp hS1 p e s m args below meth c H1 locs1 ls hF hW1 hN1 hSS hL) T hT X
theorem r_callSU {g : pG} {M M2 : pM} {E : pE} {pc : Nat} {L : pL} {st av stk : List Value} {S : pS} {k n d2 mc ms n2 idx : Nat} {Post : Option Value → pS → Prop} {b ci : Nat} (d : decode M.2.1 pc = .ok (.invokespecial idx, 3)) (hM : MS g M2 d2 mc ms (.ref b :: av) S Post) (hf : mF M2 n2) (hi : Cond.instanceMethod M2.1 ∈ gT) (hl : Cond.methodLink M.1.cls idx M2.1 ∈ gT) (hsm : Cond.sameMethod M2.1.cls M2.1.cls M2.1.name M2.1.desc ∈ gT) (hsu : Cond.superclass M.1.cls M2.1.cls ∈ gT) (hnm : M2.1.name ≠ "<init>") (hn : av.length = n2) (hst : stk = av.reverse ++ .ref b :: st) (hb : b < S.1) (hs : S.2.1 b = .inr ci) (hci : ci < 13) (hsum : (st.map fun v => v.category).sum ≤ 8) (hR : d2 + 1 ≤ E.1.frames ∧ 8 + (M2.2.2.1 + 11) + 200 * d2 ≤ E.1.locals) (hcs : k + mc ≤ E.1.cells ∧ n + ms ≤ E.1.slots) (kk : ∀ v S', Post v S' → S'.1 = S.1 + mc → PW g M E (pc + 3) L (v.toList ++ st) S' (k + mc) (n + ms)) : PW g M E pc L stk S k n := by
  intro p e s m args below meth c H locs ls hF hW hN hS hL
  subst hst
  have hcat := lv_room (m := m) (pc := pc) (ls := ls) (rest := (av.reverse ++ .ref b :: st).map (vr (gad g))) (cat_map (ad := gad g) hsum)
  intro T hT X
  have hz := hW.size hF.lo hN hS hT X
  have hr : va_Run p g.1 e E.1 s m args below meth c H locs k n mc ms (F0 m pc ls ((av.reverse ++ .ref b :: st).map (vr (gad g)))) (st.map (vr (gad g))) (pQ g S.1 mc Post _) (pA g) := va_runSU (C := clC ci) ((hW.K.1 ci _ (cl_some hci)).2) (As := av.map (vr (gad g))) hF.fix hM (va_cwSU n2 hF.2.2.2.2.2.1 (good_app hf.1 (by intro w hw; simp only [List.mem_cons, List.not_mem_nil, or_false] at hw; rcases hw with rfl | rfl | rfl | rfl | rfl; exact hl; exact hsm; exact hsu; exact hi; exact hf.2.1)) rfl rfl rfl ⟨hnm, hf.2.2.2.2⟩ hR) (pre_V hW hF.K hS hz hb hs hci rfl) rfl (by rw [List.length_map]; exact hn) hL.1 (by simp [vr]) hcat d hcs
  exact r_after hr hN hW.1 hW.2.1 hS (fun v S' H1 locs1 hp hW1 hS1 hN1 hSS => kk v S' hp hS1 p e s m args below meth c H1 locs1 ls hF hW1 hN1 hSS hL) T hT X
/-! ===== rows: System.arraycopy of ints, from place 0 to place 0 ===== -/
theorem r_acopy {g : pG} {M : pM} {E : pE} {pc : Nat} {L : pL} {st : List Value} {S : pS} {k n : Nat} {idx q0 q1 n0 n1 N : Nat} (d : decode M.2.1 pc = .ok (.invokestatic idx, 3)) (hl : Cond.methodLink M.1.cls idx arraycopyName ∈ gT) (hnat : Cond.native arraycopyName ∈ gT) (hst : Cond.static arraycopyName ∈ gT) (hini : Cond.initialized "java/lang/System" ∈ gT)
    (hs0 : S.2.1 q0 = .inl (0, n0)) (hs1 : S.2.1 q1 = .inl (0, n1)) (h0 : q0 < S.1) (h1 : q1 < S.1) {x : Int32} (hx : x = nI N) (hn0 : N ≤ n0) (hn1 : N ≤ n1) (hN31 : N ≤ 2147483647) (hsum : (st.map fun v => v.category).sum ≤ 8) (hf : 1 ≤ E.1.frames) (hlo : 8 + (nativeFrameWords "java/lang/System" "arraycopy" 5 + 11) ≤ E.1.locals)
    (kk : PW g M E (pc + 3) L st (mArr S q1 (va_cpy (S.2.2.2 q0) (S.2.2.2 q1) 0 0 N)) k n) : PW g M E pc L (.int x :: .int 0 :: .ref q1 :: .int 0 :: .ref q0 :: st) S k n := by
  intro p e s m args below meth c H locs ls hF hW hN hS hL
  subst hx
  have hcat := cat_map (ad := gad g) hsum
  refine va_copyi hF.1 hF.2.1 (hF.2.2.2.1.trans hL.1.symm) hF.own (hF.w hl) (hF.w hnat) (hF.w hst) (hF.w hini) hW.K hW.P hW.D hS q0 q1 0 0 (ty := .int) ((wsOf_get h0).trans (by rw [cellOf_a hs0 (by decide)])) ((wsOf_get h1).trans (by rw [cellOf_a hs1 (by decide)])) rfl rfl rfl (by decide) (by decide) (nI_pos (by omega)) (by rw [nI_clamp (by omega)]; simpa using hn0) (by rw [nI_clamp (by omega)]; simpa using hn1) (fun i hi => rfl) hf (by omega) d (fun H1 locs1 hP1 hD1 hS1 => ?_)
  have e0 : (0 : Int32).toNatClampNeg = 0 := by decide
  rw [nI_clamp (by omega), e0] at hP1
  have e2 : (wsOf g.2.2.1 (gad g) S).set q1 (gad g q1, .inl (g.2.2.1 0, n1, .inl (va_cpy (S.2.2.2 q0) (S.2.2.2 q1) 0 0 N))) = wsOf g.2.2.1 (gad g) (mArr S q1 (va_cpy (S.2.2.2 q0) (S.2.2.2 q1) 0 0 N)) := wsOf_set rfl ((cellOf_a (S := mArr S q1 (va_cpy (S.2.2.2 q0) (S.2.2.2 q1) 0 0 N)) hs1 (by decide)).trans (by simp [mArr])) (fun q hq => cellOf_cong rfl rfl (by simp [mArr, hq]))
  rw [e2] at hP1
  exact kk p e s m args below meth c H1 locs1 ls hF ⟨hW.1, hW.2.1, hP1, hW.K⟩ hN hS1 hL
