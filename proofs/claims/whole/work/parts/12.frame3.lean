/-! ===== constants that lie in the heap, and never change ===== -/
def kN : Nat → String
  | 0 => "LAW_AT_FIRST"
  | 1 => "LAW_MOST"
  | _ => "KIND_ABOVE"
def kL : Nat → List Int32
  | 0 => [3, 4, 10, 20]
  | 1 => [9, 9, 99, 99]
  | _ => [-3, 0, 0, 1, 2, 0]
def kF (k : Nat) : Nat → Int32 := fun j => (kL k).getD j 0
def sTx : List String := ["player", "cover", "page", "second", "prompter", "star", "help", "book", "least", "throat", "part", "of", "knows", "ill"]
def sLn : List Nat := [6, 5, 4, 6, 8, 4, 4, 4, 5, 6, 4, 2, 5, 3]
def sBy : List (List Int32) := [[112, 108, 97, 121, 101, 114], [99, 111, 118, 101, 114], [112, 97, 103, 101], [115, 101, 99, 111, 110, 100], [112, 114, 111, 109, 112, 116, 101, 114], [115, 116, 97, 114], [104, 101, 108, 112], [98, 111, 111, 107], [108, 101, 97, 115, 116], [116, 104, 114, 111, 97, 116], [112, 97, 114, 116], [111, 102], [107, 110, 111, 119, 115], [105, 108, 108]]
def kZ : String × String := ("java/lang/String", "COMPACT_STRINGS")
/-- links between nest mates, and casts: words that a state keeps, but no table -/
def xMN : List (String × Nat × MethodName) := [(RX11, 33, yX8_init), (RX11, 47, yX6_init), (RX11, 63, yX9_init), (RX0, 65, yX11_heldTo)]
def xFN : List (String × Nat × String) := [(RX0, 43, "LAW_AT_FIRST"), (RX8, 66, "LAW_MOST")]
def xCS : List String := [RX1, RX2, RX5, RX4, RX7]
/-- static arrays stand for 2000 + k, strings for 1000 + k, their bytes for 1100 + k -/
def KC (g : pG) (U : State) : Prop :=
  (∀ k, k < 3 → va_Z "TonightCovers" (kN k) "[I" (.ref (gad g (2000 + k))) (pA g) U U.heap ∧ va_T .int (gad g (2000 + k)) (kL k).length (fun j => .int (kF k j)) (pA g) U U.heap) ∧
  vk_S 14 sLn sBy (fun i => gad g (1000 + i)) (fun i => gad g (1100 + i)) (pA g) U U.heap ∧
  (∀ k, k < 14 → vk_R "TonightCovers$Tape" (100 + 2 * k) (sTx.getD k "") (gad g (1000 + k)) U) ∧
  va_Z "java/lang/String" "COMPACT_STRINGS" "Z" (.int 1) (pA g) U U.heap ∧
  va_Zq "jdk/internal/util/Preconditions" "SIOOBE_FORMATTER" "Ljava/util/function/BiFunction;" (pA g) U U.heap ∧
  (∀ q ∈ xMN, va_Nw (.methodLinkNest q.1 q.2.1 q.2.2 "TonightCovers") U) ∧
  (∀ q ∈ xFN, va_Nw (.fieldLinkNest q.1 q.2.1 "TonightCovers" q.2.2 "[I" "TonightCovers") U) ∧
  (∀ C ∈ xCS, va_Nw (.castable C "TonightCovers$Player") U) ∧
  va_AO "TonightCovers$Player" U ∧ va_AO "TonightCovers$Sheet" U
theorem KC.warm {g : pG} {s U : State} (h : KC g s) (hW : s.WarmedH U.vm) (hS : s.heap.size ≤ U.heap.size ∧ ∀ q : Nat, q < s.heap.size → ¬ pA g q → U.heap[q]? = s.heap[q]?) : KC g U := by
  obtain ⟨h1, h2, h3, h4, h5, h6, h7, h8, h9, h10⟩ := h
  refine ⟨fun k hk => ⟨(va_Z.moved hW.alike (h1 k hk).1).kept hS.2, (va_T.moved hW.alike (h1 k hk).2).kept hS.2⟩, (vk_S.moved hW.alike h2).kept hS.2, fun k hk => vk_R.warm hW (h3 k hk), (va_Z.moved hW.alike h4).kept hS.2, (va_Zq.moved hW.alike h5).kept hS.2, fun q hq => va_Nw.warmM hW (h6 q hq), fun q hq => va_Nw.warmF hW (h7 q hq), fun q hq => va_Nw.warmC hW (h8 q hq), h9.moved hW.alike, h10.moved hW.alike⟩
/-! ===== contracts over pure states ===== -/
def rmd (d mc ms : Nat) : Room := { frames := d, cells := mc, slots := ms, locals := 200 * d }
def pP (g : pG) (av : List Value) (S : pS) : Array Value → State → Prop := va_Pc (av.map (vr (gad g))) (fun U => Wd g S U U.heap ∧ KC g U ∧ U.heap.size = gad g S.1)
def pQ (g : pG) (n0 mc : Nat) (Post : Option Value → pS → Prop) : Array Value → State → Outcome → State → Prop := fun _ st oc t => (∃ (v : Option Value) (S' : pS), oc = .returned (v.map (vr (gad g))) ∧ Post v S' ∧ S'.1 = n0 + mc ∧ Wd g S' t t.heap) ∧ va_F (pA g) st t
/-- a method's contract at arguments av and a state S: with d frames below it, mc new cells of ms slots -/
def MS (g : pG) (M : pM) (d mc ms : Nat) (av : List Value) (S : pS) (Post : Option Value → pS → Prop) : Prop := Met g.1 M.1 (wsM M) (rmd d mc ms) (pP g av S) (pQ g S.1 mc Post) mc ms (pA g)
theorem pP_blind {g : pG} {av : List Value} {S : pS} : FrameBlind (pP g av S) := by
  intro a U gg mk h
  obtain ⟨h1, h2, h3, h4⟩ := h
  exact ⟨h1, h2.moved (Vm.Alike.refl U.vm), h3.warm (State.WarmedH.refl _) ⟨Nat.le_refl _, fun _ _ _ => rfl⟩, h4⟩
/-- what an end of a walk is said by: its room, what is known of its start, its goal -/
abbrev pE : Type := Room × (State → Array Value → Prop) × (List Frame → Array Value → State → State → Prop)
def eN (g : pG) (n0 d mc ms : Nat) (Post : Option Value → pS → Prop) : pE := (rmd d mc ms, fun s _ => s.heap.size = gad g n0 ∧ n0 ≤ 900, fun below args s => MQ below (pQ g n0 mc Post) args s mc ms (pA g))
/-- what holds in a method's body throughout -/
def Fx (g : pG) (M : pM) (E : pE) (p : Program) (s : State) (m : MethodId) (args : Array Value) (meth : Method) (c : Code) : Prop :=
  p.tables.exec = Jvm.exec ∧ c.code = M.2.1 ∧ meth.sig.returnType = M.2.2.2 ∧ c.maxLocals = M.2.2.1 ∧ s.vm.findClass M.1.cls = some m.cls ∧ (∀ w ∈ wsM M, w.before args s = true) ∧ meth.locks = false ∧ meth.name = M.1.name ∧ E.2.1 s args ∧ KC g s ∧ gad g 0 ≤ s.heap.size
theorem Fx.K {g : pG} {M : pM} {E : pE} {p : Program} {s : State} {m : MethodId} {args : Array Value} {meth : Method} {c : Code} (h : Fx g M E p s m args meth c) : KC g s := h.2.2.2.2.2.2.2.2.2.1
theorem Fx.w {g : pG} {M : pM} {E : pE} {p : Program} {s : State} {m : MethodId} {args : Array Value} {meth : Method} {c : Code} (h : Fx g M E p s m args meth c) {w : Cond} (hw : w ∈ gT) : w.before args s = true := h.2.2.2.2.2.1 _ (wsM_t hw)
theorem Fx.own {g : pG} {M : pM} {E : pE} {p : Program} {s : State} {m : MethodId} {args : Array Value} {meth : Method} {c : Code} (h : Fx g M E p s m args meth c) : s.vm.findClass M.1.cls = some m.cls := h.2.2.2.2.1
theorem Fx.lo {g : pG} {M : pM} {E : pE} {p : Program} {s : State} {m : MethodId} {args : Array Value} {meth : Method} {c : Code} (h : Fx g M E p s m args meth c) : gad g 0 ≤ s.heap.size := h.2.2.2.2.2.2.2.2.2.2
theorem Fx.fix {g : pG} {M : pM} {E : pE} {p : Program} {s : State} {m : MethodId} {args : Array Value} {meth : Method} {c : Code} (h : Fx g M E p s m args meth c) : CallFix p m c M.2.1 M.2.2.1 s args (wsM M) M.1.cls := ⟨h.1, h.2.1, h.2.2.2.1, h.2.2.2.2.1, h.2.2.2.2.2.1⟩
/-- the walk from here on, in every machine whose state the pure one tells -/
def PW (g : pG) (M : pM) (E : pE) (pc : Nat) (L : pL) (st : List Value) (S : pS) (k n : Nat) : Prop :=
  ∀ (p : Program) (e : Env) (s : State) (m : MethodId) (args : Array Value) (below : List Frame) (meth : Method) (c : Code) (H : Heap) (locs : List Loc) (ls : Array Slot),
    Fx g M E p s m args meth c → Wd g S s H → s.heap.size + k = gad g S.1 → va_S (pA g) s.heap H locs → lk (gad g) ls M.2.2.1 L →
    W p g.1 e E.1 s m args below meth c H locs k n (E.2.2 below args s) (F0 m pc ls (st.map (vr (gad g))))
theorem PW.sub {g : pG} {M : pM} {E : pE} {pc : Nat} {L L' : pL} {st : List Value} {S : pS} {k n : Nat} (h : PW g M E pc L' st S k n) (hs : ∀ (i : Nat) (v : Value), L'[i]? = some (some v) → L[i]? = some (some v)) : PW g M E pc L st S k n :=
  fun p e s m args below meth c H locs ls hF hW hN hS hL => h p e s m args below meth c H locs ls hF hW hN hS (lk_sub hL hs)
def enL (nL : Nat) (av : List Value) : pL := let l := av.flatMap (fun v => if v.category = 2 then [some v, none] else [some v]); l ++ List.replicate (nL - l.length) none
theorem enL_at {ad : Nat → Nat} {av : List Value} {nL j : Nat} {v : Value} : ∀ (i : Nat), (enL nL av)[j]? = some (some v) → (i + j, vr ad v) ∈ lv_args i (av.map (vr ad)) := by
  intro i h
  unfold enL at h
  simp only at h
  have key : ∀ (av : List Value) (i j : Nat), (av.flatMap (fun v => if v.category = 2 then [some v, none] else [some v]))[j]? = some (some v) → (i + j, vr ad v) ∈ lv_args i (av.map (vr ad)) := by
    intro av
    induction av with
    | nil => intro i j h; simp at h
    | cons w t ih =>
      intro i j h
      rw [List.flatMap_cons] at h
      rw [List.map_cons, lv_args, vr_cat]
      by_cases c : w.category = 2
      · rw [if_pos c] at h ⊢
        match j, h with
        | 0, h => simp at h; rw [h]; exact List.mem_cons_self
        | 1, h => simp at h
        | j + 2, h =>
          have := ih (i + 2) j (by simpa using h)
          rw [show i + (j + 2) = i + 2 + j by omega]
          exact List.mem_cons_of_mem _ this
      · rw [if_neg c] at h ⊢
        match j, h with
        | 0, h => simp at h; rw [h]; exact List.mem_cons_self
        | j + 1, h =>
          have := ih (i + 1) j (by simpa using h)
          rw [show i + (j + 1) = i + 1 + j by omega]
          exact List.mem_cons_of_mem _ this
  by_cases hl : j < (av.flatMap (fun v => if v.category = 2 then [some v, none] else [some v])).length
  · rw [List.getElem?_append_left hl] at h
    exact key av i j h
  · rw [List.getElem?_append_right (by omega)] at h
    have := List.eq_of_mem_replicate (List.mem_of_getElem? h)
    cases this
theorem lg_sl_len {ad : Nat → Nat} (av : List Value) : (lg_sl (av.map (vr ad))).length = (av.map (fun v => v.category)).sum := by
  induction av with
  | nil => rfl
  | cons v t ih =>
    have e : lg_sl ((v :: t).map (vr ad)) = lg_sl [vr ad v] ++ lg_sl (t.map (vr ad)) := by simp [lg_sl]
    rw [e, List.length_append, ih, List.map_cons, List.sum_cons]
    congr 1
    simp only [lg_sl, List.flatMap_cons, List.flatMap_nil, List.append_nil]
    rcases lv_cat v with h | h
    · rw [if_neg (by rw [vr_cat, h]; decide), h]; rfl
    · rw [if_pos (by rw [vr_cat, h]), h]; rfl
/-- a walk of a body gives the contract -/
theorem MS.of {g : pG} {M : pM} {d mc ms : Nat} {av : List Value} {S : pS} {Post : Option Value → pS → Prop} (hy : plainName M.1.cls = true) (hn : (av.map (fun v => v.category)).sum ≤ M.2.2.1)
    (h : PW g M (eN g S.1 d mc ms Post) 0 (enL M.2.2.1 av) [] S 0 0) : MS g M d mc ms av S Post := by
  refine Met.ofW (cc := M.2.1) (maxL := M.2.2.1) (ret := M.2.2.2) (ws' := gT) hy rfl ?_
  intro p e s m args below meth c s₁ B hml hv
  obtain ⟨rfl, hW, hK, hz⟩ := hv
  have hts := atoms_spec (ws := wsM M) B.pre
  have hown : s.vm.findClass M.1.cls = some m.cls := findClass_of_methodNamed B.named
  have hin : meth.name = M.1.name := (name_of_methodNamed B.named B.method).1
  have hsz : gad g 0 ≤ s.heap.size := by rw [hz, hW.1 S.1 (by have := hW.2.1; omega)]; omega
  have hl := lv_entry (av.map (vr (gad g))) (n := M.2.2.1) (by rw [lg_sl_len]; exact hn)
  rw [lg_entry_eq]
  refine h p e s m _ below meth c s.heap [] _ ⟨B.exec, B.bytes, B.returns, hml, hown, hts, B.notSynchronized, hin, ⟨hz, hW.2.1⟩, hK, hsz⟩ hW hz va_S.rf ⟨hl.1, hl.2.1, fun q hq => hl.2.2 q ?_⟩
  obtain ⟨i, w⟩ := q
  obtain ⟨-, v, h2, rfl⟩ := (lvF_mem _ 0).mp hq
  have := enL_at (ad := gad g) 0 h2
  simpa using this
theorem MS.imp {g : pG} {M : pM} {d mc ms : Nat} {av : List Value} {S : pS} {Post Post' : Option Value → pS → Prop} (h : MS g M d mc ms av S Post) (hi : ∀ r S', Post r S' → Post' r S') : MS g M d mc ms av S Post' := by
  intro p e ha hc hk s m args below hf happ hP hK
  obtain ⟨t, o, h1, h2, h3, h4, h5⟩ := h p e ha hc hk s m args below hf happ hP hK
  obtain ⟨⟨v, S', e1, e2, e3⟩, e4⟩ := h4
  exact ⟨t, o, h1, h2, h3, ⟨⟨v, S', e1, hi _ _ e2, e3⟩, e4⟩, h5⟩
/-- the heap's size, out of the room that is used and the cells that stand -/
theorem Wd.size {g : pG} {S : pS} {s T : State} {H : Heap} {k n : Nat} {p : Program} {l : Launch} {e : Env} {R : Room} {m : MethodId} {args : Array Value} {below : List Frame} {meth : Method} {c : Code} {locs : List Loc} (h00 : gad g 0 ≤ s.heap.size) (hW : Wd g S s H) (hN : s.heap.size + k = gad g S.1) (hS : va_S (pA g) s.heap H locs) (hT : T.heap = H) (X : Stand p l e R s m args below meth c T locs k n) : H.size = gad g S.1 := by
  have h1 : T.heap.size ≤ s.heap.size + k := X.same.2.2.1
  rw [hT] at h1
  have h2 := hS.1
  have h3 := hW.2.1
  by_cases h0 : S.1 = 0
  · rw [h0] at hN ⊢
    have : gad g 0 ≤ H.size := by omega
    omega
  · have h4 := (hW.P (S.1 - 1) _ (wsOf_get (by omega))).lt
    have h5 := hW.1 S.1 (by omega)
    have h6 := hW.1 (S.1 - 1) (by omega)
    simp only at h4
    omega
