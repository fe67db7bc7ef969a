/-! ===== super.m(..) where the superclass has m from its own superclass ===== -/
section
variable {p : Program} {l : Launch} {e : Env} {R : Room} {s : State} {m : MethodId} {args : Array Value} {below : List Frame} {meth : Method} {c : Code}
theorem va_callSUo {T : State} {locs : List Loc} {cells slots : Nat} (X : Stand p l e R s m args below meth c T locs cells slots) (hexec : p.tables.exec = Jvm.exec) {own : String} {index : Nat} {x y : MethodName} {bytes : ByteArray} {maxL : Nat} {ret : Option FieldType}
    (hown : s.vm.findClass own = some m.cls) (hlink : (Cond.methodLink own index x).before args s = true) (hsame : (Cond.sameMethod x.cls y.cls x.name x.desc).before args s = true) (hsup : (Cond.superclass own x.cls).before args s = true) (hsup2 : (Cond.superclass x.cls y.cls).before args s = true) (hxn : x.name = y.name) (hxd : x.desc = y.desc)
    (hinst : (Cond.instanceMethod y).before args s = true) (hcode : (Cond.code y bytes maxL ret).before args s = true) (hno : y.name ≠ "<init>")
    {W : Nat} {Pre : Pt → Array Value → Prop} {Post : Pt → Array Value → Option Value → Pt → Prop} (hK : Back l R p e below s args y 3 W Pre Post)
    {b : Addr} {cellB : Cell} {kB : Class} (hcell : T.heap[b]? = some cellB) (hobj : cellB.vm.isStatics = false) (hkB : s.vm.classes[cellB.cls]? = some kB)
    {g : JFrame} (hg : g.method = m) (hsize : g.locals.size = c.maxLocals) {argsL rest : List Value} (hlen : ∀ sig, parseMethodDescriptor y.desc = some sig → argsL.length = sig.parameters.length)
    (hstack : g.stack = argsL.reverse ++ .ref b :: rest) (hW : 2 * g.monitorRoom + (rest.map fun v => v.category).sum ≤ W) (hdg : decode c.code g.pc = .ok (.invokespecial index, 3))
    (hpre : ∀ vm₁, s.WarmedH vm₁ → Pre ⟨T.setVm vm₁, locs, cells, slots⟩ (Value.ref b :: argsL).toArray) :
    ∃ (v : Option Value) (vm₁ : Vm) (B : Pt), s.WarmedH vm₁ ∧ Stand p l e R s m args below meth c B.U B.locs B.cells B.slots ∧ Post ⟨T.setVm vm₁, locs, cells, slots⟩ (Value.ref b :: argsL).toArray v B ∧
      ∀ target, Steps p.tables e below (B.U.setTop { g with pc := g.pc + 3, stack := v.toList ++ rest }) target → Steps p.tables e below (T.setTop g) target := by
  obtain ⟨mk, methM, hnamed, hmethM, hstM, habM⟩ := Cond.instanceMethod_spec hinst
  obtain ⟨methM', cM, hmethM', -, -, -, -, -, -, hsigM⟩ := Cond.code_spec hnamed hcode
  cases hmethM.symm.trans hmethM'
  obtain ⟨ps, dk, kp, hps, hdk, hkp, hsuper, -, -, hnid⟩ := Cond.superclass_spec hown hsup
  obtain ⟨ps2, dk2, kp2, hps2, hdk2, hkp2, hsuper2, -, -, hnid2⟩ := Cond.superclass_spec hps hsup2
  have hn : s.methodNamed? ⟨y.cls, x.name, x.desc⟩ = some mk := by rw [hxn, hxd]; exact hnamed
  have hpm : ps2 = mk.cls := Option.some.inj (hps2.symm.trans (findClass_of_methodNamed hnamed))
  have hsub : s.vm.isSubclass ps mk.cls = true := by
    have hlt : 0 < s.vm.classes.size := by
      have := (Array.getElem?_eq_some_iff.mp hdk2).1
      omega
    obtain ⟨z, hz⟩ : ∃ z, s.vm.classes.size = z + 1 := ⟨s.vm.classes.size - 1, by omega⟩
    rw [← hpm]
    unfold Vm.isSubclass
    rw [hz]
    simp [Vm.isSubclassAux, hdk2, hsuper2]
  obtain ⟨vm₁, X₁, hstep₁⟩ := X.invokespecialUp hexec hown hlink hsame hn hmethM hstM habM (by rw [hxn]; exact hno) hdk hnid hps hsuper hsub (a := b) (cell := cellB) hcell
    (fun z h => by rw [h] at hobj; cases hobj) hkB (g := g) hg (argsL := argsL) (rest := rest) (hlen _ hsigM) hstack hdg
  obtain ⟨v, B, X', hpost, hsteps⟩ := hK m meth c ⟨T.setVm vm₁, locs, cells, slots⟩ { g with stack := rest } (.invokespecial index) mk (Value.ref b :: argsL).toArray X₁ hg hsize hdg hW (X₁.named hnamed) (hpre vm₁ X₁.warmed)
  exact ⟨v, vm₁, B, X₁.warmed, X', hpost, fun target h => hstep₁ _ (by rw [doInvoke_state]; exact hsteps.trans h)⟩
variable {H : Heap} {locs : List Loc} {cells slots : Nat}
theorem va_runSUo {x y : MethodName} {bytes cc : ByteArray} {maxL nL mc ms n index : Nat} {ret : Option FieldType} {ws ws' : List Cond} {rm : Room} {Pc : Array Value → State → Prop} {Qc : Array Value → State → Outcome → State → Prop} {free : Addr → Prop} {Ts : List Cond} {own C : String} {cC : ClassId} {b : Addr} {As rest : List Value} {g : JFrame}
    (hat : ClassAt s C cC) (S : CallFix p m c cc nL s args Ts own) (hM : Met l y ws rm Pc Qc mc ms free) (hT : GoodIn Ts (([.methodLink own index x, .sameMethod x.cls y.cls x.name x.desc, .superclass own x.cls, .superclass x.cls y.cls, .instanceMethod y, .initialized y.cls] : List Cond) ++ ws)) (ht : ∀ w ∈ Ts, w.before args s = true) (hw : ws = Cond.code y bytes maxL ret :: ws') (hrc : rm.cells = mc) (hrs : rm.slots = ms) (hxn : x.name = y.name) (hxd : x.desc = y.desc)
    (hd : y.name ≠ "<init>" ∧ (parseMethodDescriptor y.desc).map (fun d => d.parameters.length) = some n) (hR : rm.frames + 1 ≤ R.frames ∧ 8 + (maxL + 11) + rm.locals ≤ R.locals) (hp : PreV s H C b Pc As)
    (hg : g.method = m) (hn : As.length = n) (hsize : g.locals.size = nL) (hstack : g.stack = As.reverse ++ .ref b :: rest) (hW : 2 * g.monitorRoom + (rest.map fun v => v.category).sum ≤ 8) (hdg : decode cc g.pc = .ok (.invokespecial index, 3)) (hf : cells + mc ≤ R.cells ∧ slots + ms ≤ R.slots) :
    va_Run p l e R s m args below meth c H locs cells slots mc ms g rest (Qc (Value.ref b :: As).toArray) (free) := by
  have ok := fun w h => ht w (hT w h).1
  have hG : GoodIn Ts ws := fun w h => hT w (List.mem_append_right _ h)
  have hcw : Cond.code y bytes maxL ret ∈ ws := by rw [hw]; exact List.mem_cons_self
  have hl1 := ok (.methodLink own index x) (by simp)
  have hl2 := ok (.sameMethod x.cls y.cls x.name x.desc) (by simp)
  have hl3 := ok (.superclass own x.cls) (by simp)
  have hl3b := ok (.superclass x.cls y.cls) (by simp)
  have hl4 := ok (.instanceMethod y) (by simp)
  have hini := ok (.initialized y.cls) (by simp)
  have hcode := ht _ (hG _ hcw).1
  have hlen : ∀ sig, parseMethodDescriptor y.desc = some sig → n = sig.parameters.length := fun sig h => by
    have h2 := hd.2
    rw [h] at h2
    exact (Option.some.inj h2).symm
  have hK : Back l R p e below s args y 3 8 (PreOf R mc ms Pc) (PostOf Qc mc ms free) := back_of (bytes := bytes) (maxL := maxL) (ret := ret) hM hp.1 hrc hrs hR.1 hR.2 (pay_in ht hG) hcw (fun a' U hW => word_at hW (Or.inl (by first | rfl | simp [Cond.onTables, Cond.keeps, Cond.steady])) hini)
  obtain ⟨hx, hb, hml, ho, -⟩ := S
  obtain ⟨-, ⟨cellB, hcB, hoB, hclB⟩, hPc⟩ := hp
  obtain ⟨hfc, kB, hkB, -⟩ := hat
  cases hfc.symm.trans hclB
  intro T hT X
  obtain ⟨v, vm₁, ⟨U', l2, c2, s2⟩, hW₁, X', ⟨g', mk, t, L, e1, e2, hq, h1, hL, h2, h3⟩, st⟩ := va_callSUo X hx (bytes := bytes) (maxL := maxL) (ret := ret) ho hl1 hl2 hl3 hl3b hxn hxd hl4 hcode hd.1 hK (by rw [hT]; exact hcB) hoB hkB hg (hsize.trans hml.symm) (argsL := As) (rest := rest) (fun sig h => hn.trans (hlen sig h)) hstack hW (by rw [hb]; exact hdg)
    (fun vm₁ hW₁ => ⟨hf.1, hf.2, hPc (T.setVm vm₁) hT hW₁⟩)
  dsimp only [Pt.U, Pt.locs, Pt.cells, Pt.slots] at X' e1 e2 h1 h2 h3 st
  subst h1; subst h2; subst h3
  exact ⟨v, (T.setVm vm₁).calling g' mk (Value.ref b :: As).toArray, t, U', L, hT, X', hL, e1, e2, hq, st⟩
end
theorem r_callSUo {g : pG} {M M2 : pM} {E : pE} {pc : Nat} {L : pL} {st av stk : List Value} {S : pS} {k n d2 mc ms n2 idx : Nat} {Post : Option Value → pS → Prop} {b ci : Nat} {x : MethodName} (d : decode M.2.1 pc = .ok (.invokespecial idx, 3)) (hM : MS g M2 d2 mc ms (.ref b :: av) S Post) (hf : mF M2 n2) (hi : Cond.instanceMethod M2.1 ∈ gT) (hl : Cond.methodLink M.1.cls idx x ∈ gT) (hsm : Cond.sameMethod x.cls M2.1.cls x.name x.desc ∈ gT) (hsu : Cond.superclass M.1.cls x.cls ∈ gT) (hsu2 : Cond.superclass x.cls M2.1.cls ∈ gT) (hxn : x.name = M2.1.name) (hxd : x.desc = M2.1.desc) (hnm : M2.1.name ≠ "<init>") (hn : av.length = n2) (hst : stk = av.reverse ++ .ref b :: st) (hb : b < S.1) (hs : S.2.1 b = .inr ci) (hci : ci < 13) (hsum : (st.map fun v => v.category).sum ≤ 8) (hR : d2 + 1 ≤ E.1.frames ∧ 8 + (M2.2.2.1 + 11) + 200 * d2 ≤ E.1.locals) (hcs : k + mc ≤ E.1.cells ∧ n + ms ≤ E.1.slots) (kk : ∀ v S', Post v S' → S'.1 = S.1 + mc → PW g M E (pc + 3) L (v.toList ++ st) S' (k + mc) (n + ms)) : PW g M E pc L stk S k n := by
  intro p e s m args below meth c H locs ls hF hW hN hS hL
  subst hst
  have hcat := lv_room (m := m) (pc := pc) (ls := ls) (rest := (av.reverse ++ .ref b :: st).map (vr (gad g))) (cat_map (ad := gad g) hsum)
  intro T hT X
  have hz := hW.size hF.lo hN hS hT X
  have hr : va_Run p g.1 e E.1 s m args below meth c H locs k n mc ms (F0 m pc ls ((av.reverse ++ .ref b :: st).map (vr (gad g)))) (st.map (vr (gad g))) (pQ g S.1 mc Post _) (pA g) := va_runSUo (C := clC ci) ((hW.K.1 ci _ (cl_some hci)).2) (As := av.map (vr (gad g))) hF.fix hM (good_app hf.1 (by intro w hw; simp only [List.mem_cons, List.not_mem_nil, or_false] at hw; rcases hw with rfl | rfl | rfl | rfl | rfl | rfl; exact hl; exact hsm; exact hsu; exact hsu2; exact hi; exact hf.2.1)) hF.2.2.2.2.2.1 rfl rfl rfl hxn hxd ⟨hnm, hf.2.2.2.2⟩ hR (pre_V hW hF.K hS hz hb hs hci rfl) rfl (by rw [List.length_map]; exact hn) hL.1 (by simp [vr]) hcat d hcs
  exact r_after hr hN hW.1 hW.2.1 hS (fun v S' H1 locs1 hp hW1 hS1 hN1 hSS => kk v S' hp hS1 p e s m args below meth c H1 locs1 ls hF hW1 hN1 hSS hL) T hT X
theorem r_callSUo_dI {g : pG} {M M2 : pM} {E : pE} {pc : Nat} {L : pL} {st av stk : List Value} {S : pS} {k n d2 n2 idx : Nat} {rx : Int32} {Y : pS} {b ci : Nat} {x : MethodName} (d : decode M.2.1 pc = .ok (.invokespecial idx, 3)) (hM : MS g M2 d2 0 0 (.ref b :: av) S (dI rx Y)) (hf : mF M2 n2) (hi : Cond.instanceMethod M2.1 ∈ gT) (hl : Cond.methodLink M.1.cls idx x ∈ gT) (hsm : Cond.sameMethod x.cls M2.1.cls x.name x.desc ∈ gT) (hsu : Cond.superclass M.1.cls x.cls ∈ gT) (hsu2 : Cond.superclass x.cls M2.1.cls ∈ gT) (hxn : x.name = M2.1.name) (hxd : x.desc = M2.1.desc) (hnm : M2.1.name ≠ "<init>") (hn : av.length = n2) (hst : stk = av.reverse ++ .ref b :: st) (hb : b < S.1) (hs : S.2.1 b = .inr ci) (hci : ci < 13) (hsum : (st.map fun v => v.category).sum ≤ 8) (hR : d2 + 1 ≤ E.1.frames ∧ 8 + (M2.2.2.1 + 11) + 200 * d2 ≤ E.1.locals) (hcs : k + 0 ≤ E.1.cells ∧ n + 0 ≤ E.1.slots) (kk : PW g M E (pc + 3) L (.int rx :: st) Y k n) : PW g M E pc L stk S k n :=
  r_callSUo d hM hf hi hl hsm hsu hsu2 hxn hxd hnm hn hst hb hs hci hsum hR hcs (fun v S' hp hn1 => by obtain ⟨rfl, rfl⟩ := hp; exact kk)
