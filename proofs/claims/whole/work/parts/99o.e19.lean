/-! THE CLAIM OUT OF ONE WALK OF THE LAW'S BODY. Your part is whole_start (and what it stands on); all else here is the same for every law, but numbers. -/
def R_law : String := "TonightCoversLaw"
def lw_P (b : Addr) (xs : List Int32) (args : Array Value) (s : State) : Prop := args = #[.ref b] ∧ s.IntsAt b xs ∧ xs.length ≤ 2560 ∧ (Jvm.Cond.and given_1 narrow_1).before args s = true
def lw_Q (_ : Array Value) (s : State) (o : Outcome) (t : State) : Prop := o = .returned (some (.int 1)) ∧ Framed s o t [] 600000 7302250
def lw_Z (below : List Frame) (a : Array Value) (s : State) : State → Prop := fun t => ∃ o, t.status = .running ∧ Ended t below o ∧ lw_Q a s o t
/-- the law's own end, with 1 on the stack, nothing written that was there before, its room as the claim has it -/
theorem lw_ret {p : Program} {l : Launch} {e : Env} {s : State} {m : MethodId} {below : List Frame} {meth : Method} {c : Code} {b : Nat} (hx : p.tables.exec = Jvm.exec) (hb : c.code = code) (hr : meth.sig.returnType = ret) (hlocks : meth.locks = false) {pc : Nat} {H : Heap} {ls : Array Slot} (hdg : decode code pc = .ok (.ireturn, 1)) : W p l e room_1 s m #[Value.ref b] below meth c H [] 600000 7302250 (lw_Z below #[Value.ref b] s) (F0 m pc ls [.int 1]) := by
  intro T hT X
  obtain ⟨fs, hret, hrun, hended, hW, hframe⟩ := X.leave (v := some (.int 1)) (hlocks := hlocks) (fun h => by rw [hr] at h; cases h)
  have hmeth' : T.vm.method? m = some meth := X.method'
  refine ⟨T.setFrames fs, ?_, .returned (some (.int 1)), hrun, hended, rfl, ⟨_, rfl⟩, hW, hframe⟩
  jvm_step X.here [X.here.top, hx, hb, hdg, hmeth', hr, ret, narrow_b1]
  (try refine ⟨rfl, ?_⟩); (try refine ⟨rfl, ?_⟩)
  first | (intro acts; rw [hret _ acts rfl rfl rfl]) | rw [hret _ _ rfl rfl rfl]
  exact Steps.refl _
/-- what holds at the law's entry: the machine, the code, the tables' words (any of lw_tbl by 'hts w (by decide +kernel)'), the script of L ints xs at the cell b, what the Statement gives of the start (any of its parts by flat_of_before) -/
def lw_At (p : Program) (s : State) (m : MethodId) (meth : Method) (c : Code) (b L : Nat) (xs : Nat → Int32) : Prop :=
  p.tables.exec = Jvm.exec ∧ c.code = code ∧ meth.sig.returnType = ret ∧ c.maxLocals = 4 ∧ s.vm.findClass R_law = some m.cls ∧ (∀ w ∈ lw_tbl, w.before #[Value.ref b] s = true) ∧ va_X b L xs s s.heap ∧ b < s.heap.size ∧ meth.locks = false ∧ (Jvm.Cond.and given_1 narrow_1).before #[Value.ref b] s = true
/-! ===== the law's own rows ===== -/
abbrev mL : pM := (yL_law, code, 4, ret)
/-- the law's end and start: the script of L ints lies at place 3000 -/
def eL (g : pG) (L : Nat) (xs : Nat → Int32) : pE := (room_1, fun s args => args = #[Value.ref (gad g 3000)] ∧ va_X (gad g 3000) L xs s s.heap ∧ gad g 3000 < s.heap.size ∧ s.heap.size = gad g 0, fun below args s => lw_Z below args s)
theorem Fx.L {g : pG} {L : Nat} {xs : Nat → Int32} {p : Program} {s : State} {m : MethodId} {args : Array Value} {meth : Method} {c : Code} (h : Fx g mL (eL g L xs) p s m args meth c) : args = #[Value.ref (gad g 3000)] ∧ va_X (gad g 3000) L xs s s.heap ∧ gad g 3000 < s.heap.size ∧ s.heap.size = gad g 0 := h.2.2.2.2.2.2.2.2.1
theorem r_sld {g : pG} {L : Nat} {xs : Nat → Int32} {pc : Nat} {Lo : pL} {st : List Value} {S : pS} {k n : Nat} {x : Int32} {j : Nat} (d : decode mL.2.1 pc = .ok (.iaload, 1)) (hx : x = nI j) (hj : j < L) (hL : L ≤ 2560) (kk : PW g mL (eL g L xs) (pc + 1) Lo (.int (xs j) :: st) S k n) : PW g mL (eL g L xs) pc Lo (.int x :: .ref 3000 :: st) S k n := by
  intro p e s m args below meth c H locs ls hF hW hN hS hl
  subst hx
  obtain ⟨-, hX, hb, hz⟩ := hF.L
  refine va_sld hF.1 hF.2.1 hX hb (fun (q : gad g 0 ≤ gad g 3000) => by omega) hS (vp_in_nI hj (by omega)) d ?_
  rw [nI_clamp (by omega)]
  exact kk p e s m args below meth c H locs ls hF hW hN hS hl
theorem r_slen {g : pG} {L : Nat} {xs : Nat → Int32} {pc : Nat} {Lo : pL} {st : List Value} {S : pS} {k n : Nat} (d : decode mL.2.1 pc = .ok (.arraylength, 1)) (kk : PW g mL (eL g L xs) (pc + 1) Lo (.int (nI L) :: st) S k n) : PW g mL (eL g L xs) pc Lo (.ref 3000 :: st) S k n := by
  intro p e s m args below meth c H locs ls hF hW hN hS hl
  obtain ⟨-, hX, hb, hz⟩ := hF.L
  exact va_slen hF.1 hF.2.1 hX hb (fun (q : gad g 0 ≤ gad g 3000) => by omega) hS d (kk p e s m args below meth c H locs ls hF hW hN hS hl)
theorem r_lawret {g : pG} {L : Nat} {xs : Nat → Int32} {pc : Nat} {Lo : pL} {S : pS} {k n : Nat} (d : decode mL.2.1 pc = .ok (.ireturn, 1)) (hk : k ≤ 600000) (hn : n ≤ 7302250) : PW g mL (eL g L xs) pc Lo [.int 1] S k n := by
  intro p e s m args below meth c H locs ls hF hW hN hS hl
  obtain ⟨ha, -, -, hz⟩ := hF.L
  refine va_forget (fun q hq => ?_) ?_
  · rw [hz]
    exact hS.2.2 q hq
  · refine W.widen hk hn ?_
    show W p g.1 e room_1 s m args below meth c H [] 600000 7302250 (lw_Z below args s) (F0 m pc ls [.int 1])
    rw [ha]
    exact lw_ret hF.1 hF.2.1 hF.2.2.1 hF.2.2.2.2.2.2.1 d
theorem cmp_self {x : Int64} : lg_cmp x x = 0 := by
  unfold lg_cmp
  rw [if_neg (fun z => Int64.lt_irrefl z), if_pos rfl]
abbrev LL (i : Nat) : pL := [some (.ref 3000), some (.ref 0), some (.ref 54), some (.int (nI i))]
/-- at the head of the loop's end, with the script's calls up to i made -/
def Go (g : pG) (L : Nat) (xs : Nat → Int32) (pc i : Nat) : Prop := ∀ S, sOk S → RS S → PW g mL (eL g L xs) pc (LL i) [] S 71 1920
theorem lc_0 (g : pG) {L : Nat} {xs : Nat → Int32} (hL : L ≤ 2560) {i : Nat} (hi : i + 5 ≤ L) (kk : Go g L xs 1655 i) : Go g L xs 228 i := by
  intro S hS h
  obtain ⟨PC, m1, q1⟩ := tw_feed g hS h (((xs (i + 1)).toInt64 <<< ((32 : Int32).toInt64 &&& 63)) ||| ((xs (i + 2)).toInt64 &&& 4294967295)) (xs (i + 3))
  obtain ⟨M, rfl⟩ := sOk_gs hS
  refine r_aload_n dL_law_228 rfl rfl ?_
  refine r_aload_n dL_law_229 rfl rfl ?_
  refine r_iload_n dL_law_230 rfl rfl ?_
  refine r_iconst (v := 1) dL_law_231 (by decide) ?_
  refine r_iaddN i 1 dL_law_232 ?_
  refine r_sld (j := i + 1) dL_law_233 rfl (by omega) hL ?_
  refine r_i2l dL_law_234 rfl ?_
  refine r_bipush (v := 32) dL_law_235 (by decide) ?_
  refine r_lshl dL_law_237 rfl ?_
  refine r_aload_n dL_law_238 rfl rfl ?_
  refine r_iload_n dL_law_239 rfl rfl ?_
  refine r_iconst (v := 2) dL_law_240 (by decide) ?_
  refine r_iaddN i 2 dL_law_241 ?_
  refine r_sld (j := i + 2) dL_law_242 rfl (by omega) hL ?_
  refine r_i2l dL_law_243 rfl ?_
  refine r_ldc2 dL_law_244 kl_L_13 ?_
  refine r_land dL_law_247 ?_
  refine r_lor dL_law_248 ?_
  refine r_aload_n dL_law_249 rfl rfl ?_
  refine r_iload_n dL_law_250 rfl rfl ?_
  refine r_iconst (v := 3) dL_law_251 (by decide) ?_
  refine r_iaddN i 3 dL_law_252 ?_
  refine r_sld (j := i + 3) dL_law_253 rfl (by omega) hL ?_
  refine r_callV_eI (ci := 11) dL_law_254 m1 mf_X11_feed mi_X11_feed se_X11_X11_X11_feed ml_L_15 rfl rfl (Nat.le_of_ble_eq_true rfl) rfl (by decide) rfl (Nat.le_of_ble_eq_true rfl) ⟨(Nat.le_of_ble_eq_true rfl), (Nat.le_of_ble_eq_true rfl)⟩ ⟨(Nat.le_of_ble_eq_true rfl), (Nat.le_of_ble_eq_true rfl)⟩ (fun x1 S1 p1 z1 => ?_)
  obtain ⟨ok1, PR, m2, q2⟩ := q1 x1 S1 p1
  obtain ⟨M1, rfl⟩ := sOk_gs ok1
  refine r_aload_n dL_law_257 rfl rfl ?_
  refine r_aload_n dL_law_258 rfl rfl ?_
  refine r_iload_n dL_law_259 rfl rfl ?_
  refine r_iconst (v := 1) dL_law_260 (by decide) ?_
  refine r_iaddN i 1 dL_law_261 ?_
  refine r_sld (j := i + 1) dL_law_262 rfl (by omega) hL ?_
  refine r_i2l dL_law_263 rfl ?_
  refine r_bipush (v := 32) dL_law_264 (by decide) ?_
  refine r_lshl dL_law_266 rfl ?_
  refine r_aload_n dL_law_267 rfl rfl ?_
  refine r_iload_n dL_law_268 rfl rfl ?_
  refine r_iconst (v := 2) dL_law_269 (by decide) ?_
  refine r_iaddN i 2 dL_law_270 ?_
  refine r_sld (j := i + 2) dL_law_271 rfl (by omega) hL ?_
  refine r_i2l dL_law_272 rfl ?_
  refine r_ldc2 dL_law_273 kl_L_13 ?_
  refine r_land dL_law_276 ?_
  refine r_lor dL_law_277 ?_
  refine r_aload_n dL_law_278 rfl rfl ?_
  refine r_iload_n dL_law_279 rfl rfl ?_
  refine r_iconst (v := 3) dL_law_280 (by decide) ?_
  refine r_iaddN i 3 dL_law_281 ?_
  refine r_sld (j := i + 3) dL_law_282 rfl (by omega) hL ?_
  refine r_callV_eI (ci := 12) dL_law_283 m2 mf_X12_feed mi_X12_feed se_X12_X12_X12_feed ml_L_19 rfl rfl (Nat.le_of_ble_eq_true rfl) rfl (by decide) rfl (Nat.le_of_ble_eq_true rfl) ⟨(Nat.le_of_ble_eq_true rfl), (Nat.le_of_ble_eq_true rfl)⟩ ⟨(Nat.le_of_ble_eq_true rfl), (Nat.le_of_ble_eq_true rfl)⟩ (fun y1 S2 p2 z2 => ?_)
  obtain ⟨e, ok2, rs2⟩ := q2 y1 S2 p2
  exact r_icmp_eq (tgt := 1655) dL_law_286 (by decide) (fun _ => kk S2 ok2 rs2) (fun z => absurd e.symm z)
theorem lc_1 (g : pG) {L : Nat} {xs : Nat → Int32} (hL : L ≤ 2560) {i : Nat} (hi : i + 5 ≤ L) (kk : Go g L xs 1655 i) : Go g L xs 291 i := by
  intro S hS h
  obtain ⟨PC, m1, q1⟩ := tw_company g hS h
  obtain ⟨M, rfl⟩ := sOk_gs hS
  refine r_aload_n dL_law_291 rfl rfl ?_
  refine r_callV_eI (ci := 11) dL_law_292 m1 mf_X11_company mi_X11_company se_X11_X11_X11_company ml_L_20 rfl rfl (Nat.le_of_ble_eq_true rfl) rfl (by decide) rfl (Nat.le_of_ble_eq_true rfl) ⟨(Nat.le_of_ble_eq_true rfl), (Nat.le_of_ble_eq_true rfl)⟩ ⟨(Nat.le_of_ble_eq_true rfl), (Nat.le_of_ble_eq_true rfl)⟩ (fun x1 S1 p1 z1 => ?_)
  obtain ⟨ok1, PR, m2, q2⟩ := q1 x1 S1 p1
  obtain ⟨M1, rfl⟩ := sOk_gs ok1
  refine r_aload_n dL_law_295 rfl rfl ?_
  refine r_callV_eI (ci := 12) dL_law_296 m2 mf_X12_company mi_X12_company se_X12_X12_X12_company ml_L_24 rfl rfl (Nat.le_of_ble_eq_true rfl) rfl (by decide) rfl (Nat.le_of_ble_eq_true rfl) ⟨(Nat.le_of_ble_eq_true rfl), (Nat.le_of_ble_eq_true rfl)⟩ ⟨(Nat.le_of_ble_eq_true rfl), (Nat.le_of_ble_eq_true rfl)⟩ (fun y1 S2 p2 z2 => ?_)
  obtain ⟨e, ok2, rs2⟩ := q2 y1 S2 p2
  exact r_icmp_eq (tgt := 1655) dL_law_299 (by decide) (fun _ => kk S2 ok2 rs2) (fun z => absurd e.symm z)
theorem lc_2 (g : pG) {L : Nat} {xs : Nat → Int32} (hL : L ≤ 2560) {i : Nat} (hi : i + 5 ≤ L) (kk : Go g L xs 1655 i) : Go g L xs 304 i := by
  intro S hS h
  obtain ⟨PC, m1, q1⟩ := tw_set g hS h (xs (i + 1)) (xs (i + 2))
  obtain ⟨M, rfl⟩ := sOk_gs hS
  refine r_aload_n dL_law_304 rfl rfl ?_
  refine r_aload_n dL_law_305 rfl rfl ?_
  refine r_iload_n dL_law_306 rfl rfl ?_
  refine r_iconst (v := 1) dL_law_307 (by decide) ?_
  refine r_iaddN i 1 dL_law_308 ?_
  refine r_sld (j := i + 1) dL_law_309 rfl (by omega) hL ?_
  refine r_aload_n dL_law_310 rfl rfl ?_
  refine r_iload_n dL_law_311 rfl rfl ?_
  refine r_iconst (v := 2) dL_law_312 (by decide) ?_
  refine r_iaddN i 2 dL_law_313 ?_
  refine r_sld (j := i + 2) dL_law_314 rfl (by omega) hL ?_
  refine r_callV_eI (ci := 11) dL_law_315 m1 mf_X11_set mi_X11_set se_X11_X11_X11_set ml_L_25 rfl rfl (Nat.le_of_ble_eq_true rfl) rfl (by decide) rfl (Nat.le_of_ble_eq_true rfl) ⟨(Nat.le_of_ble_eq_true rfl), (Nat.le_of_ble_eq_true rfl)⟩ ⟨(Nat.le_of_ble_eq_true rfl), (Nat.le_of_ble_eq_true rfl)⟩ (fun x1 S1 p1 z1 => ?_)
  obtain ⟨ok1, PR, m2, q2⟩ := q1 x1 S1 p1
  obtain ⟨M1, rfl⟩ := sOk_gs ok1
  refine r_aload_n dL_law_318 rfl rfl ?_
  refine r_aload_n dL_law_319 rfl rfl ?_
  refine r_iload_n dL_law_320 rfl rfl ?_
  refine r_iconst (v := 1) dL_law_321 (by decide) ?_
  refine r_iaddN i 1 dL_law_322 ?_
  refine r_sld (j := i + 1) dL_law_323 rfl (by omega) hL ?_
  refine r_aload_n dL_law_324 rfl rfl ?_
  refine r_iload_n dL_law_325 rfl rfl ?_
  refine r_iconst (v := 2) dL_law_326 (by decide) ?_
  refine r_iaddN i 2 dL_law_327 ?_
  refine r_sld (j := i + 2) dL_law_328 rfl (by omega) hL ?_
  refine r_callV_eI (ci := 12) dL_law_329 m2 mf_X12_set mi_X12_set se_X12_X12_X12_set ml_L_29 rfl rfl (Nat.le_of_ble_eq_true rfl) rfl (by decide) rfl (Nat.le_of_ble_eq_true rfl) ⟨(Nat.le_of_ble_eq_true rfl), (Nat.le_of_ble_eq_true rfl)⟩ ⟨(Nat.le_of_ble_eq_true rfl), (Nat.le_of_ble_eq_true rfl)⟩ (fun y1 S2 p2 z2 => ?_)
  obtain ⟨e, ok2, rs2⟩ := q2 y1 S2 p2
  exact r_icmp_eq (tgt := 1655) dL_law_332 (by decide) (fun _ => kk S2 ok2 rs2) (fun z => absurd e.symm z)
theorem lc_3 (g : pG) {L : Nat} {xs : Nat → Int32} (hL : L ≤ 2560) {i : Nat} (hi : i + 5 ≤ L) (kk : Go g L xs 1655 i) : Go g L xs 337 i := by
  intro S hS h
  obtain ⟨PC, m1, q1⟩ := tw_lawOf g hS h (xs (i + 1))
  obtain ⟨M, rfl⟩ := sOk_gs hS
  refine r_aload_n dL_law_337 rfl rfl ?_
  refine r_aload_n dL_law_338 rfl rfl ?_
  refine r_iload_n dL_law_339 rfl rfl ?_
  refine r_iconst (v := 1) dL_law_340 (by decide) ?_
  refine r_iaddN i 1 dL_law_341 ?_
  refine r_sld (j := i + 1) dL_law_342 rfl (by omega) hL ?_
  refine r_callV_eI (ci := 11) dL_law_343 m1 mf_X11_lawOf mi_X11_lawOf se_X11_X11_X11_lawOf ml_L_30 rfl rfl (Nat.le_of_ble_eq_true rfl) rfl (by decide) rfl (Nat.le_of_ble_eq_true rfl) ⟨(Nat.le_of_ble_eq_true rfl), (Nat.le_of_ble_eq_true rfl)⟩ ⟨(Nat.le_of_ble_eq_true rfl), (Nat.le_of_ble_eq_true rfl)⟩ (fun x1 S1 p1 z1 => ?_)
  obtain ⟨ok1, PR, m2, q2⟩ := q1 x1 S1 p1
  obtain ⟨M1, rfl⟩ := sOk_gs ok1
  refine r_aload_n dL_law_346 rfl rfl ?_
  refine r_aload_n dL_law_347 rfl rfl ?_
  refine r_iload_n dL_law_348 rfl rfl ?_
  refine r_iconst (v := 1) dL_law_349 (by decide) ?_
  refine r_iaddN i 1 dL_law_350 ?_
  refine r_sld (j := i + 1) dL_law_351 rfl (by omega) hL ?_
  refine r_callV_eI (ci := 12) dL_law_352 m2 mf_X12_lawOf mi_X12_lawOf se_X12_X12_X12_lawOf ml_L_34 rfl rfl (Nat.le_of_ble_eq_true rfl) rfl (by decide) rfl (Nat.le_of_ble_eq_true rfl) ⟨(Nat.le_of_ble_eq_true rfl), (Nat.le_of_ble_eq_true rfl)⟩ ⟨(Nat.le_of_ble_eq_true rfl), (Nat.le_of_ble_eq_true rfl)⟩ (fun y1 S2 p2 z2 => ?_)
  obtain ⟨e, ok2, rs2⟩ := q2 y1 S2 p2
  exact r_icmp_eq (tgt := 1655) dL_law_355 (by decide) (fun _ => kk S2 ok2 rs2) (fun z => absurd e.symm z)
theorem lc_4 (g : pG) {L : Nat} {xs : Nat → Int32} (hL : L ≤ 2560) {i : Nat} (hi : i + 5 ≤ L) (kk : Go g L xs 1655 i) : Go g L xs 360 i := by
  intro S hS h
  obtain ⟨PC, m1, q1⟩ := tw_weigh g hS h (xs (i + 1)) (xs (i + 2))
  obtain ⟨M, rfl⟩ := sOk_gs hS
  refine r_aload_n dL_law_360 rfl rfl ?_
  refine r_aload_n dL_law_361 rfl rfl ?_
  refine r_iload_n dL_law_362 rfl rfl ?_
  refine r_iconst (v := 1) dL_law_363 (by decide) ?_
  refine r_iaddN i 1 dL_law_364 ?_
  refine r_sld (j := i + 1) dL_law_365 rfl (by omega) hL ?_
  refine r_aload_n dL_law_366 rfl rfl ?_
  refine r_iload_n dL_law_367 rfl rfl ?_
  refine r_iconst (v := 2) dL_law_368 (by decide) ?_
  refine r_iaddN i 2 dL_law_369 ?_
  refine r_sld (j := i + 2) dL_law_370 rfl (by omega) hL ?_
  refine r_callV_eI (ci := 11) dL_law_371 m1 mf_X11_weigh mi_X11_weigh se_X11_X11_X11_weigh ml_L_35 rfl rfl (Nat.le_of_ble_eq_true rfl) rfl (by decide) rfl (Nat.le_of_ble_eq_true rfl) ⟨(Nat.le_of_ble_eq_true rfl), (Nat.le_of_ble_eq_true rfl)⟩ ⟨(Nat.le_of_ble_eq_true rfl), (Nat.le_of_ble_eq_true rfl)⟩ (fun x1 S1 p1 z1 => ?_)
  obtain ⟨ok1, PR, m2, q2⟩ := q1 x1 S1 p1
  obtain ⟨M1, rfl⟩ := sOk_gs ok1
  refine r_aload_n dL_law_374 rfl rfl ?_
  refine r_aload_n dL_law_375 rfl rfl ?_
  refine r_iload_n dL_law_376 rfl rfl ?_
  refine r_iconst (v := 1) dL_law_377 (by decide) ?_
  refine r_iaddN i 1 dL_law_378 ?_
  refine r_sld (j := i + 1) dL_law_379 rfl (by omega) hL ?_
  refine r_aload_n dL_law_380 rfl rfl ?_
  refine r_iload_n dL_law_381 rfl rfl ?_
  refine r_iconst (v := 2) dL_law_382 (by decide) ?_
  refine r_iaddN i 2 dL_law_383 ?_
  refine r_sld (j := i + 2) dL_law_384 rfl (by omega) hL ?_
  refine r_callV_eI (ci := 12) dL_law_385 m2 mf_X12_weigh mi_X12_weigh se_X12_X12_X12_weigh ml_L_38 rfl rfl (Nat.le_of_ble_eq_true rfl) rfl (by decide) rfl (Nat.le_of_ble_eq_true rfl) ⟨(Nat.le_of_ble_eq_true rfl), (Nat.le_of_ble_eq_true rfl)⟩ ⟨(Nat.le_of_ble_eq_true rfl), (Nat.le_of_ble_eq_true rfl)⟩ (fun y1 S2 p2 z2 => ?_)
  obtain ⟨e, ok2, rs2⟩ := q2 y1 S2 p2
  exact r_icmp_eq (tgt := 1655) dL_law_388 (by decide) (fun _ => kk S2 ok2 rs2) (fun z => absurd e.symm z)
theorem lc_5 (g : pG) {L : Nat} {xs : Nat → Int32} (hL : L ≤ 2560) {i : Nat} (hi : i + 5 ≤ L) (kk : Go g L xs 1655 i) : Go g L xs 393 i := by
  intro S hS h
  obtain ⟨PC, m1, q1⟩ := tw_partOf g hS h (xs (i + 1)) (xs (i + 2))
  obtain ⟨M, rfl⟩ := sOk_gs hS
  refine r_aload_n dL_law_393 rfl rfl ?_
  refine r_aload_n dL_law_394 rfl rfl ?_
  refine r_iload_n dL_law_395 rfl rfl ?_
  refine r_iconst (v := 1) dL_law_396 (by decide) ?_
  refine r_iaddN i 1 dL_law_397 ?_
  refine r_sld (j := i + 1) dL_law_398 rfl (by omega) hL ?_
  refine r_aload_n dL_law_399 rfl rfl ?_
  refine r_iload_n dL_law_400 rfl rfl ?_
  refine r_iconst (v := 2) dL_law_401 (by decide) ?_
  refine r_iaddN i 2 dL_law_402 ?_
  refine r_sld (j := i + 2) dL_law_403 rfl (by omega) hL ?_
  refine r_callV_eI (ci := 11) dL_law_404 m1 mf_X11_partOf mi_X11_partOf se_X11_X11_X11_partOf ml_L_39 rfl rfl (Nat.le_of_ble_eq_true rfl) rfl (by decide) rfl (Nat.le_of_ble_eq_true rfl) ⟨(Nat.le_of_ble_eq_true rfl), (Nat.le_of_ble_eq_true rfl)⟩ ⟨(Nat.le_of_ble_eq_true rfl), (Nat.le_of_ble_eq_true rfl)⟩ (fun x1 S1 p1 z1 => ?_)
  obtain ⟨ok1, PR, m2, q2⟩ := q1 x1 S1 p1
  obtain ⟨M1, rfl⟩ := sOk_gs ok1
  refine r_aload_n dL_law_407 rfl rfl ?_
  refine r_aload_n dL_law_408 rfl rfl ?_
  refine r_iload_n dL_law_409 rfl rfl ?_
  refine r_iconst (v := 1) dL_law_410 (by decide) ?_
  refine r_iaddN i 1 dL_law_411 ?_
  refine r_sld (j := i + 1) dL_law_412 rfl (by omega) hL ?_
  refine r_aload_n dL_law_413 rfl rfl ?_
  refine r_iload_n dL_law_414 rfl rfl ?_
  refine r_iconst (v := 2) dL_law_415 (by decide) ?_
  refine r_iaddN i 2 dL_law_416 ?_
  refine r_sld (j := i + 2) dL_law_417 rfl (by omega) hL ?_
  refine r_callV_eI (ci := 12) dL_law_418 m2 mf_X12_partOf mi_X12_partOf se_X12_X12_X12_partOf ml_L_42 rfl rfl (Nat.le_of_ble_eq_true rfl) rfl (by decide) rfl (Nat.le_of_ble_eq_true rfl) ⟨(Nat.le_of_ble_eq_true rfl), (Nat.le_of_ble_eq_true rfl)⟩ ⟨(Nat.le_of_ble_eq_true rfl), (Nat.le_of_ble_eq_true rfl)⟩ (fun y1 S2 p2 z2 => ?_)
  obtain ⟨e, ok2, rs2⟩ := q2 y1 S2 p2
  exact r_icmp_eq (tgt := 1655) dL_law_421 (by decide) (fun _ => kk S2 ok2 rs2) (fun z => absurd e.symm z)
theorem lc_6 (g : pG) {L : Nat} {xs : Nat → Int32} (hL : L ≤ 2560) {i : Nat} (hi : i + 5 ≤ L) (kk : Go g L xs 1655 i) : Go g L xs 426 i := by
  intro S hS h
  obtain ⟨PC, m1, q1⟩ := tw_player g hS h (xs (i + 1)) (xs (i + 2))
  obtain ⟨M, rfl⟩ := sOk_gs hS
  refine r_aload_n dL_law_426 rfl rfl ?_
  refine r_aload_n dL_law_427 rfl rfl ?_
  refine r_iload_n dL_law_428 rfl rfl ?_
  refine r_iconst (v := 1) dL_law_429 (by decide) ?_
  refine r_iaddN i 1 dL_law_430 ?_
  refine r_sld (j := i + 1) dL_law_431 rfl (by omega) hL ?_
  refine r_aload_n dL_law_432 rfl rfl ?_
  refine r_iload_n dL_law_433 rfl rfl ?_
  refine r_iconst (v := 2) dL_law_434 (by decide) ?_
  refine r_iaddN i 2 dL_law_435 ?_
  refine r_sld (j := i + 2) dL_law_436 rfl (by omega) hL ?_
  refine r_callV_eI (ci := 11) dL_law_437 m1 mf_X11_player mi_X11_player se_X11_X11_X11_player ml_L_43 rfl rfl (Nat.le_of_ble_eq_true rfl) rfl (by decide) rfl (Nat.le_of_ble_eq_true rfl) ⟨(Nat.le_of_ble_eq_true rfl), (Nat.le_of_ble_eq_true rfl)⟩ ⟨(Nat.le_of_ble_eq_true rfl), (Nat.le_of_ble_eq_true rfl)⟩ (fun x1 S1 p1 z1 => ?_)
  obtain ⟨ok1, PR, m2, q2⟩ := q1 x1 S1 p1
  obtain ⟨M1, rfl⟩ := sOk_gs ok1
  refine r_aload_n dL_law_440 rfl rfl ?_
  refine r_aload_n dL_law_441 rfl rfl ?_
  refine r_iload_n dL_law_442 rfl rfl ?_
  refine r_iconst (v := 1) dL_law_443 (by decide) ?_
  refine r_iaddN i 1 dL_law_444 ?_
  refine r_sld (j := i + 1) dL_law_445 rfl (by omega) hL ?_
  refine r_aload_n dL_law_446 rfl rfl ?_
  refine r_iload_n dL_law_447 rfl rfl ?_
  refine r_iconst (v := 2) dL_law_448 (by decide) ?_
  refine r_iaddN i 2 dL_law_449 ?_
  refine r_sld (j := i + 2) dL_law_450 rfl (by omega) hL ?_
  refine r_callV_eI (ci := 12) dL_law_451 m2 mf_X12_player mi_X12_player se_X12_X12_X12_player ml_L_46 rfl rfl (Nat.le_of_ble_eq_true rfl) rfl (by decide) rfl (Nat.le_of_ble_eq_true rfl) ⟨(Nat.le_of_ble_eq_true rfl), (Nat.le_of_ble_eq_true rfl)⟩ ⟨(Nat.le_of_ble_eq_true rfl), (Nat.le_of_ble_eq_true rfl)⟩ (fun y1 S2 p2 z2 => ?_)
  obtain ⟨e, ok2, rs2⟩ := q2 y1 S2 p2
  exact r_icmp_eq (tgt := 1655) dL_law_454 (by decide) (fun _ => kk S2 ok2 rs2) (fun z => absurd e.symm z)
theorem lc_7 (g : pG) {L : Nat} {xs : Nat → Int32} (hL : L ≤ 2560) {i : Nat} (hi : i + 5 ≤ L) (kk : Go g L xs 1655 i) : Go g L xs 459 i := by
  intro S hS h
  obtain ⟨PC, m1, q1⟩ := tw_of g hS h (xs (i + 1)) (xs (i + 2))
  obtain ⟨M, rfl⟩ := sOk_gs hS
  refine r_aload_n dL_law_459 rfl rfl ?_
  refine r_aload_n dL_law_460 rfl rfl ?_
  refine r_iload_n dL_law_461 rfl rfl ?_
  refine r_iconst (v := 1) dL_law_462 (by decide) ?_
  refine r_iaddN i 1 dL_law_463 ?_
  refine r_sld (j := i + 1) dL_law_464 rfl (by omega) hL ?_
  refine r_aload_n dL_law_465 rfl rfl ?_
  refine r_iload_n dL_law_466 rfl rfl ?_
  refine r_iconst (v := 2) dL_law_467 (by decide) ?_
  refine r_iaddN i 2 dL_law_468 ?_
  refine r_sld (j := i + 2) dL_law_469 rfl (by omega) hL ?_
  refine r_callV_eI (ci := 11) dL_law_470 m1 mf_X11_of mi_X11_of se_X11_X11_X11_of ml_L_47 rfl rfl (Nat.le_of_ble_eq_true rfl) rfl (by decide) rfl (Nat.le_of_ble_eq_true rfl) ⟨(Nat.le_of_ble_eq_true rfl), (Nat.le_of_ble_eq_true rfl)⟩ ⟨(Nat.le_of_ble_eq_true rfl), (Nat.le_of_ble_eq_true rfl)⟩ (fun x1 S1 p1 z1 => ?_)
  obtain ⟨ok1, PR, m2, q2⟩ := q1 x1 S1 p1
  obtain ⟨M1, rfl⟩ := sOk_gs ok1
  refine r_aload_n dL_law_473 rfl rfl ?_
  refine r_aload_n dL_law_474 rfl rfl ?_
  refine r_iload_n dL_law_475 rfl rfl ?_
  refine r_iconst (v := 1) dL_law_476 (by decide) ?_
  refine r_iaddN i 1 dL_law_477 ?_
  refine r_sld (j := i + 1) dL_law_478 rfl (by omega) hL ?_
  refine r_aload_n dL_law_479 rfl rfl ?_
  refine r_iload_n dL_law_480 rfl rfl ?_
  refine r_iconst (v := 2) dL_law_481 (by decide) ?_
  refine r_iaddN i 2 dL_law_482 ?_
  refine r_sld (j := i + 2) dL_law_483 rfl (by omega) hL ?_
  refine r_callV_eI (ci := 12) dL_law_484 m2 mf_X12_of mi_X12_of se_X12_X12_X12_of ml_L_50 rfl rfl (Nat.le_of_ble_eq_true rfl) rfl (by decide) rfl (Nat.le_of_ble_eq_true rfl) ⟨(Nat.le_of_ble_eq_true rfl), (Nat.le_of_ble_eq_true rfl)⟩ ⟨(Nat.le_of_ble_eq_true rfl), (Nat.le_of_ble_eq_true rfl)⟩ (fun y1 S2 p2 z2 => ?_)
  obtain ⟨e, ok2, rs2⟩ := q2 y1 S2 p2
  exact r_icmp_eq (tgt := 1655) dL_law_487 (by decide) (fun _ => kk S2 ok2 rs2) (fun z => absurd e.symm z)
theorem lc_8 (g : pG) {L : Nat} {xs : Nat → Int32} (hL : L ≤ 2560) {i : Nat} (hi : i + 5 ≤ L) (kk : Go g L xs 1655 i) : Go g L xs 492 i := by
  intro S hS h
  obtain ⟨PC, m1, q1⟩ := tw_knows g hS h (xs (i + 1)) (xs (i + 2))
  obtain ⟨M, rfl⟩ := sOk_gs hS
  refine r_aload_n dL_law_492 rfl rfl ?_
  refine r_aload_n dL_law_493 rfl rfl ?_
  refine r_iload_n dL_law_494 rfl rfl ?_
  refine r_iconst (v := 1) dL_law_495 (by decide) ?_
  refine r_iaddN i 1 dL_law_496 ?_
  refine r_sld (j := i + 1) dL_law_497 rfl (by omega) hL ?_
  refine r_aload_n dL_law_498 rfl rfl ?_
  refine r_iload_n dL_law_499 rfl rfl ?_
  refine r_iconst (v := 2) dL_law_500 (by decide) ?_
  refine r_iaddN i 2 dL_law_501 ?_
  refine r_sld (j := i + 2) dL_law_502 rfl (by omega) hL ?_
  refine r_callV_eI (ci := 11) dL_law_503 m1 mf_X11_knows mi_X11_knows se_X11_X11_X11_knows ml_L_51 rfl rfl (Nat.le_of_ble_eq_true rfl) rfl (by decide) rfl (Nat.le_of_ble_eq_true rfl) ⟨(Nat.le_of_ble_eq_true rfl), (Nat.le_of_ble_eq_true rfl)⟩ ⟨(Nat.le_of_ble_eq_true rfl), (Nat.le_of_ble_eq_true rfl)⟩ (fun x1 S1 p1 z1 => ?_)
  obtain ⟨ok1, PR, m2, q2⟩ := q1 x1 S1 p1
  obtain ⟨M1, rfl⟩ := sOk_gs ok1
  refine r_aload_n dL_law_506 rfl rfl ?_
  refine r_aload_n dL_law_507 rfl rfl ?_
  refine r_iload_n dL_law_508 rfl rfl ?_
  refine r_iconst (v := 1) dL_law_509 (by decide) ?_
  refine r_iaddN i 1 dL_law_510 ?_
  refine r_sld (j := i + 1) dL_law_511 rfl (by omega) hL ?_
  refine r_aload_n dL_law_512 rfl rfl ?_
  refine r_iload_n dL_law_513 rfl rfl ?_
  refine r_iconst (v := 2) dL_law_514 (by decide) ?_
  refine r_iaddN i 2 dL_law_515 ?_
  refine r_sld (j := i + 2) dL_law_516 rfl (by omega) hL ?_
  refine r_callV_eI (ci := 12) dL_law_517 m2 mf_X12_knows mi_X12_knows se_X12_X12_X12_knows ml_L_54 rfl rfl (Nat.le_of_ble_eq_true rfl) rfl (by decide) rfl (Nat.le_of_ble_eq_true rfl) ⟨(Nat.le_of_ble_eq_true rfl), (Nat.le_of_ble_eq_true rfl)⟩ ⟨(Nat.le_of_ble_eq_true rfl), (Nat.le_of_ble_eq_true rfl)⟩ (fun y1 S2 p2 z2 => ?_)
  obtain ⟨e, ok2, rs2⟩ := q2 y1 S2 p2
  exact r_icmp_eq (tgt := 1655) dL_law_520 (by decide) (fun _ => kk S2 ok2 rs2) (fun z => absurd e.symm z)
theorem lc_9 (g : pG) {L : Nat} {xs : Nat → Int32} (hL : L ≤ 2560) {i : Nat} (hi : i + 5 ≤ L) (kk : Go g L xs 1655 i) : Go g L xs 525 i := by
  intro S hS h
  obtain ⟨PC, m1, q1⟩ := tw_does g hS h (xs (i + 1)) (xs (i + 2)) (xs (i + 3))
  obtain ⟨M, rfl⟩ := sOk_gs hS
  refine r_aload_n dL_law_525 rfl rfl ?_
  refine r_aload_n dL_law_526 rfl rfl ?_
  refine r_iload_n dL_law_527 rfl rfl ?_
  refine r_iconst (v := 1) dL_law_528 (by decide) ?_
  refine r_iaddN i 1 dL_law_529 ?_
  refine r_sld (j := i + 1) dL_law_530 rfl (by omega) hL ?_
  refine r_aload_n dL_law_531 rfl rfl ?_
  refine r_iload_n dL_law_532 rfl rfl ?_
  refine r_iconst (v := 2) dL_law_533 (by decide) ?_
  refine r_iaddN i 2 dL_law_534 ?_
  refine r_sld (j := i + 2) dL_law_535 rfl (by omega) hL ?_
  refine r_aload_n dL_law_536 rfl rfl ?_
  refine r_iload_n dL_law_537 rfl rfl ?_
  refine r_iconst (v := 3) dL_law_538 (by decide) ?_
  refine r_iaddN i 3 dL_law_539 ?_
  refine r_sld (j := i + 3) dL_law_540 rfl (by omega) hL ?_
  refine r_callV_eI (ci := 11) dL_law_541 m1 mf_X11_does mi_X11_does se_X11_X11_X11_does ml_L_55 rfl rfl (Nat.le_of_ble_eq_true rfl) rfl (by decide) rfl (Nat.le_of_ble_eq_true rfl) ⟨(Nat.le_of_ble_eq_true rfl), (Nat.le_of_ble_eq_true rfl)⟩ ⟨(Nat.le_of_ble_eq_true rfl), (Nat.le_of_ble_eq_true rfl)⟩ (fun x1 S1 p1 z1 => ?_)
  obtain ⟨ok1, PR, m2, q2⟩ := q1 x1 S1 p1
  obtain ⟨M1, rfl⟩ := sOk_gs ok1
  refine r_aload_n dL_law_544 rfl rfl ?_
  refine r_aload_n dL_law_545 rfl rfl ?_
  refine r_iload_n dL_law_546 rfl rfl ?_
  refine r_iconst (v := 1) dL_law_547 (by decide) ?_
  refine r_iaddN i 1 dL_law_548 ?_
  refine r_sld (j := i + 1) dL_law_549 rfl (by omega) hL ?_
  refine r_aload_n dL_law_550 rfl rfl ?_
  refine r_iload_n dL_law_551 rfl rfl ?_
  refine r_iconst (v := 2) dL_law_552 (by decide) ?_
  refine r_iaddN i 2 dL_law_553 ?_
  refine r_sld (j := i + 2) dL_law_554 rfl (by omega) hL ?_
  refine r_aload_n dL_law_555 rfl rfl ?_
  refine r_iload_n dL_law_556 rfl rfl ?_
  refine r_iconst (v := 3) dL_law_557 (by decide) ?_
  refine r_iaddN i 3 dL_law_558 ?_
  refine r_sld (j := i + 3) dL_law_559 rfl (by omega) hL ?_
  refine r_callV_eI (ci := 12) dL_law_560 m2 mf_X12_does mi_X12_does se_X12_X12_X12_does ml_L_59 rfl rfl (Nat.le_of_ble_eq_true rfl) rfl (by decide) rfl (Nat.le_of_ble_eq_true rfl) ⟨(Nat.le_of_ble_eq_true rfl), (Nat.le_of_ble_eq_true rfl)⟩ ⟨(Nat.le_of_ble_eq_true rfl), (Nat.le_of_ble_eq_true rfl)⟩ (fun y1 S2 p2 z2 => ?_)
  obtain ⟨e, ok2, rs2⟩ := q2 y1 S2 p2
  exact r_icmp_eq (tgt := 1655) dL_law_563 (by decide) (fun _ => kk S2 ok2 rs2) (fun z => absurd e.symm z)
theorem lc_10 (g : pG) {L : Nat} {xs : Nat → Int32} (hL : L ≤ 2560) {i : Nat} (hi : i + 5 ≤ L) (kk : Go g L xs 1655 i) : Go g L xs 568 i := by
  intro S hS h
  obtain ⟨PC, m1, q1⟩ := tw_mind g hS h (xs (i + 1)) (xs (i + 2))
  obtain ⟨M, rfl⟩ := sOk_gs hS
  refine r_aload_n dL_law_568 rfl rfl ?_
  refine r_aload_n dL_law_569 rfl rfl ?_
  refine r_iload_n dL_law_570 rfl rfl ?_
  refine r_iconst (v := 1) dL_law_571 (by decide) ?_
  refine r_iaddN i 1 dL_law_572 ?_
  refine r_sld (j := i + 1) dL_law_573 rfl (by omega) hL ?_
  refine r_aload_n dL_law_574 rfl rfl ?_
  refine r_iload_n dL_law_575 rfl rfl ?_
  refine r_iconst (v := 2) dL_law_576 (by decide) ?_
  refine r_iaddN i 2 dL_law_577 ?_
  refine r_sld (j := i + 2) dL_law_578 rfl (by omega) hL ?_
  refine r_callV_eI (ci := 11) dL_law_579 m1 mf_X11_mind mi_X11_mind se_X11_X11_X11_mind ml_L_60 rfl rfl (Nat.le_of_ble_eq_true rfl) rfl (by decide) rfl (Nat.le_of_ble_eq_true rfl) ⟨(Nat.le_of_ble_eq_true rfl), (Nat.le_of_ble_eq_true rfl)⟩ ⟨(Nat.le_of_ble_eq_true rfl), (Nat.le_of_ble_eq_true rfl)⟩ (fun x1 S1 p1 z1 => ?_)
  obtain ⟨ok1, PR, m2, q2⟩ := q1 x1 S1 p1
  obtain ⟨M1, rfl⟩ := sOk_gs ok1
  refine r_aload_n dL_law_582 rfl rfl ?_
  refine r_aload_n dL_law_583 rfl rfl ?_
  refine r_iload_n dL_law_584 rfl rfl ?_
  refine r_iconst (v := 1) dL_law_585 (by decide) ?_
  refine r_iaddN i 1 dL_law_586 ?_
  refine r_sld (j := i + 1) dL_law_587 rfl (by omega) hL ?_
  refine r_aload_n dL_law_588 rfl rfl ?_
  refine r_iload_n dL_law_589 rfl rfl ?_
  refine r_iconst (v := 2) dL_law_590 (by decide) ?_
  refine r_iaddN i 2 dL_law_591 ?_
  refine r_sld (j := i + 2) dL_law_592 rfl (by omega) hL ?_
  refine r_callV_eI (ci := 12) dL_law_593 m2 mf_X12_mind mi_X12_mind se_X12_X12_X12_mind ml_L_63 rfl rfl (Nat.le_of_ble_eq_true rfl) rfl (by decide) rfl (Nat.le_of_ble_eq_true rfl) ⟨(Nat.le_of_ble_eq_true rfl), (Nat.le_of_ble_eq_true rfl)⟩ ⟨(Nat.le_of_ble_eq_true rfl), (Nat.le_of_ble_eq_true rfl)⟩ (fun y1 S2 p2 z2 => ?_)
  obtain ⟨e, ok2, rs2⟩ := q2 y1 S2 p2
  exact r_icmp_eq (tgt := 1655) dL_law_596 (by decide) (fun _ => kk S2 ok2 rs2) (fun z => absurd e.symm z)
theorem lc_11 (g : pG) {L : Nat} {xs : Nat → Int32} (hL : L ≤ 2560) {i : Nat} (hi : i + 5 ≤ L) (kk : Go g L xs 1655 i) : Go g L xs 601 i := by
  intro S hS h
  obtain ⟨PC, m1, q1⟩ := tw_teach g hS h (xs (i + 1)) (xs (i + 2)) (xs (i + 3))
  obtain ⟨M, rfl⟩ := sOk_gs hS
  refine r_aload_n dL_law_601 rfl rfl ?_
  refine r_aload_n dL_law_602 rfl rfl ?_
  refine r_iload_n dL_law_603 rfl rfl ?_
  refine r_iconst (v := 1) dL_law_604 (by decide) ?_
  refine r_iaddN i 1 dL_law_605 ?_
  refine r_sld (j := i + 1) dL_law_606 rfl (by omega) hL ?_
  refine r_aload_n dL_law_607 rfl rfl ?_
  refine r_iload_n dL_law_608 rfl rfl ?_
  refine r_iconst (v := 2) dL_law_609 (by decide) ?_
  refine r_iaddN i 2 dL_law_610 ?_
  refine r_sld (j := i + 2) dL_law_611 rfl (by omega) hL ?_
  refine r_aload_n dL_law_612 rfl rfl ?_
  refine r_iload_n dL_law_613 rfl rfl ?_
  refine r_iconst (v := 3) dL_law_614 (by decide) ?_
  refine r_iaddN i 3 dL_law_615 ?_
  refine r_sld (j := i + 3) dL_law_616 rfl (by omega) hL ?_
  refine r_callV_eI (ci := 11) dL_law_617 m1 mf_X11_teach mi_X11_teach se_X11_X11_X11_teach ml_L_64 rfl rfl (Nat.le_of_ble_eq_true rfl) rfl (by decide) rfl (Nat.le_of_ble_eq_true rfl) ⟨(Nat.le_of_ble_eq_true rfl), (Nat.le_of_ble_eq_true rfl)⟩ ⟨(Nat.le_of_ble_eq_true rfl), (Nat.le_of_ble_eq_true rfl)⟩ (fun x1 S1 p1 z1 => ?_)
  obtain ⟨ok1, PR, m2, q2⟩ := q1 x1 S1 p1
  obtain ⟨M1, rfl⟩ := sOk_gs ok1
  refine r_aload_n dL_law_620 rfl rfl ?_
  refine r_aload_n dL_law_621 rfl rfl ?_
  refine r_iload_n dL_law_622 rfl rfl ?_
  refine r_iconst (v := 1) dL_law_623 (by decide) ?_
  refine r_iaddN i 1 dL_law_624 ?_
  refine r_sld (j := i + 1) dL_law_625 rfl (by omega) hL ?_
  refine r_aload_n dL_law_626 rfl rfl ?_
  refine r_iload_n dL_law_627 rfl rfl ?_
  refine r_iconst (v := 2) dL_law_628 (by decide) ?_
  refine r_iaddN i 2 dL_law_629 ?_
  refine r_sld (j := i + 2) dL_law_630 rfl (by omega) hL ?_
  refine r_aload_n dL_law_631 rfl rfl ?_
  refine r_iload_n dL_law_632 rfl rfl ?_
  refine r_iconst (v := 3) dL_law_633 (by decide) ?_
  refine r_iaddN i 3 dL_law_634 ?_
  refine r_sld (j := i + 3) dL_law_635 rfl (by omega) hL ?_
  refine r_callV_eI (ci := 12) dL_law_636 m2 mf_X12_teach mi_X12_teach se_X12_X12_X12_teach ml_L_67 rfl rfl (Nat.le_of_ble_eq_true rfl) rfl (by decide) rfl (Nat.le_of_ble_eq_true rfl) ⟨(Nat.le_of_ble_eq_true rfl), (Nat.le_of_ble_eq_true rfl)⟩ ⟨(Nat.le_of_ble_eq_true rfl), (Nat.le_of_ble_eq_true rfl)⟩ (fun y1 S2 p2 z2 => ?_)
  obtain ⟨e, ok2, rs2⟩ := q2 y1 S2 p2
  exact r_icmp_eq (tgt := 1655) dL_law_639 (by decide) (fun _ => kk S2 ok2 rs2) (fun z => absurd e.symm z)
theorem lc_12 (g : pG) {L : Nat} {xs : Nat → Int32} (hL : L ≤ 2560) {i : Nat} (hi : i + 5 ≤ L) (kk : Go g L xs 1655 i) : Go g L xs 644 i := by
  intro S hS h
  obtain ⟨PC, m1, q1⟩ := tw_sick g hS h (xs (i + 1)) (xs (i + 2))
  obtain ⟨M, rfl⟩ := sOk_gs hS
  refine r_aload_n dL_law_644 rfl rfl ?_
  refine r_aload_n dL_law_645 rfl rfl ?_
  refine r_iload_n dL_law_646 rfl rfl ?_
  refine r_iconst (v := 1) dL_law_647 (by decide) ?_
  refine r_iaddN i 1 dL_law_648 ?_
  refine r_sld (j := i + 1) dL_law_649 rfl (by omega) hL ?_
  refine r_aload_n dL_law_650 rfl rfl ?_
  refine r_iload_n dL_law_651 rfl rfl ?_
  refine r_iconst (v := 2) dL_law_652 (by decide) ?_
  refine r_iaddN i 2 dL_law_653 ?_
  refine r_sld (j := i + 2) dL_law_654 rfl (by omega) hL ?_
  refine r_callV_eI (ci := 11) dL_law_655 m1 mf_X11_sick mi_X11_sick se_X11_X11_X11_sick ml_L_68 rfl rfl (Nat.le_of_ble_eq_true rfl) rfl (by decide) rfl (Nat.le_of_ble_eq_true rfl) ⟨(Nat.le_of_ble_eq_true rfl), (Nat.le_of_ble_eq_true rfl)⟩ ⟨(Nat.le_of_ble_eq_true rfl), (Nat.le_of_ble_eq_true rfl)⟩ (fun x1 S1 p1 z1 => ?_)
  obtain ⟨ok1, PR, m2, q2⟩ := q1 x1 S1 p1
  obtain ⟨M1, rfl⟩ := sOk_gs ok1
  refine r_aload_n dL_law_658 rfl rfl ?_
  refine r_aload_n dL_law_659 rfl rfl ?_
  refine r_iload_n dL_law_660 rfl rfl ?_
  refine r_iconst (v := 1) dL_law_661 (by decide) ?_
  refine r_iaddN i 1 dL_law_662 ?_
  refine r_sld (j := i + 1) dL_law_663 rfl (by omega) hL ?_
  refine r_aload_n dL_law_664 rfl rfl ?_
  refine r_iload_n dL_law_665 rfl rfl ?_
  refine r_iconst (v := 2) dL_law_666 (by decide) ?_
  refine r_iaddN i 2 dL_law_667 ?_
  refine r_sld (j := i + 2) dL_law_668 rfl (by omega) hL ?_
  refine r_callV_eI (ci := 12) dL_law_669 m2 mf_X12_sick mi_X12_sick se_X12_X12_X12_sick ml_L_71 rfl rfl (Nat.le_of_ble_eq_true rfl) rfl (by decide) rfl (Nat.le_of_ble_eq_true rfl) ⟨(Nat.le_of_ble_eq_true rfl), (Nat.le_of_ble_eq_true rfl)⟩ ⟨(Nat.le_of_ble_eq_true rfl), (Nat.le_of_ble_eq_true rfl)⟩ (fun y1 S2 p2 z2 => ?_)
  obtain ⟨e, ok2, rs2⟩ := q2 y1 S2 p2
  exact r_icmp_eq (tgt := 1655) dL_law_672 (by decide) (fun _ => kk S2 ok2 rs2) (fun z => absurd e.symm z)
theorem lc_13 (g : pG) {L : Nat} {xs : Nat → Int32} (hL : L ≤ 2560) {i : Nat} (hi : i + 5 ≤ L) (kk : Go g L xs 1655 i) : Go g L xs 677 i := by
  intro S hS h
  obtain ⟨PC, m1, q1⟩ := tw_nights g hS h (xs (i + 1))
  obtain ⟨M, rfl⟩ := sOk_gs hS
  refine r_aload_n dL_law_677 rfl rfl ?_
  refine r_aload_n dL_law_678 rfl rfl ?_
  refine r_iload_n dL_law_679 rfl rfl ?_
  refine r_iconst (v := 1) dL_law_680 (by decide) ?_
  refine r_iaddN i 1 dL_law_681 ?_
  refine r_sld (j := i + 1) dL_law_682 rfl (by omega) hL ?_
  refine r_callV_eI (ci := 11) dL_law_683 m1 mf_X11_nights mi_X11_nights se_X11_X11_X11_nights ml_L_72 rfl rfl (Nat.le_of_ble_eq_true rfl) rfl (by decide) rfl (Nat.le_of_ble_eq_true rfl) ⟨(Nat.le_of_ble_eq_true rfl), (Nat.le_of_ble_eq_true rfl)⟩ ⟨(Nat.le_of_ble_eq_true rfl), (Nat.le_of_ble_eq_true rfl)⟩ (fun x1 S1 p1 z1 => ?_)
  obtain ⟨ok1, PR, m2, q2⟩ := q1 x1 S1 p1
  obtain ⟨M1, rfl⟩ := sOk_gs ok1
  refine r_aload_n dL_law_686 rfl rfl ?_
  refine r_aload_n dL_law_687 rfl rfl ?_
  refine r_iload_n dL_law_688 rfl rfl ?_
  refine r_iconst (v := 1) dL_law_689 (by decide) ?_
  refine r_iaddN i 1 dL_law_690 ?_
  refine r_sld (j := i + 1) dL_law_691 rfl (by omega) hL ?_
  refine r_callV_eI (ci := 12) dL_law_692 m2 mf_X12_nights mi_X12_nights se_X12_X12_X12_nights ml_L_75 rfl rfl (Nat.le_of_ble_eq_true rfl) rfl (by decide) rfl (Nat.le_of_ble_eq_true rfl) ⟨(Nat.le_of_ble_eq_true rfl), (Nat.le_of_ble_eq_true rfl)⟩ ⟨(Nat.le_of_ble_eq_true rfl), (Nat.le_of_ble_eq_true rfl)⟩ (fun y1 S2 p2 z2 => ?_)
  obtain ⟨e, ok2, rs2⟩ := q2 y1 S2 p2
  exact r_icmp_eq (tgt := 1655) dL_law_695 (by decide) (fun _ => kk S2 ok2 rs2) (fun z => absurd e.symm z)
theorem lc_14 (g : pG) {L : Nat} {xs : Nat → Int32} (hL : L ≤ 2560) {i : Nat} (hi : i + 5 ≤ L) (kk : Go g L xs 1655 i) : Go g L xs 700 i := by
  intro S hS h
  obtain ⟨PC, m1, q1⟩ := tw_seed g hS h (xs (i + 1))
  obtain ⟨M, rfl⟩ := sOk_gs hS
  refine r_aload_n dL_law_700 rfl rfl ?_
  refine r_aload_n dL_law_701 rfl rfl ?_
  refine r_iload_n dL_law_702 rfl rfl ?_
  refine r_iconst (v := 1) dL_law_703 (by decide) ?_
  refine r_iaddN i 1 dL_law_704 ?_
  refine r_sld (j := i + 1) dL_law_705 rfl (by omega) hL ?_
  refine r_callV_eI (ci := 11) dL_law_706 m1 mf_X11_seed mi_X11_seed se_X11_X11_X11_seed ml_L_76 rfl rfl (Nat.le_of_ble_eq_true rfl) rfl (by decide) rfl (Nat.le_of_ble_eq_true rfl) ⟨(Nat.le_of_ble_eq_true rfl), (Nat.le_of_ble_eq_true rfl)⟩ ⟨(Nat.le_of_ble_eq_true rfl), (Nat.le_of_ble_eq_true rfl)⟩ (fun x1 S1 p1 z1 => ?_)
  obtain ⟨ok1, PR, m2, q2⟩ := q1 x1 S1 p1
  obtain ⟨M1, rfl⟩ := sOk_gs ok1
  refine r_aload_n dL_law_709 rfl rfl ?_
  refine r_aload_n dL_law_710 rfl rfl ?_
  refine r_iload_n dL_law_711 rfl rfl ?_
  refine r_iconst (v := 1) dL_law_712 (by decide) ?_
  refine r_iaddN i 1 dL_law_713 ?_
  refine r_sld (j := i + 1) dL_law_714 rfl (by omega) hL ?_
  refine r_callV_eI (ci := 12) dL_law_715 m2 mf_X12_seed mi_X12_seed se_X12_X12_X12_seed ml_L_79 rfl rfl (Nat.le_of_ble_eq_true rfl) rfl (by decide) rfl (Nat.le_of_ble_eq_true rfl) ⟨(Nat.le_of_ble_eq_true rfl), (Nat.le_of_ble_eq_true rfl)⟩ ⟨(Nat.le_of_ble_eq_true rfl), (Nat.le_of_ble_eq_true rfl)⟩ (fun y1 S2 p2 z2 => ?_)
  obtain ⟨e, ok2, rs2⟩ := q2 y1 S2 p2
  exact r_icmp_eq (tgt := 1655) dL_law_718 (by decide) (fun _ => kk S2 ok2 rs2) (fun z => absurd e.symm z)
theorem lc_15 (g : pG) {L : Nat} {xs : Nat → Int32} (hL : L ≤ 2560) {i : Nat} (hi : i + 5 ≤ L) (kk : Go g L xs 1655 i) : Go g L xs 723 i := by
  intro S hS h
  obtain ⟨PC, m1, q1⟩ := tw_night g hS h
  obtain ⟨M, rfl⟩ := sOk_gs hS
  refine r_aload_n dL_law_723 rfl rfl ?_
  refine r_callV_eI (ci := 11) dL_law_724 m1 mf_X11_night mi_X11_night se_X11_X11_X11_night ml_L_80 rfl rfl (Nat.le_of_ble_eq_true rfl) rfl (by decide) rfl (Nat.le_of_ble_eq_true rfl) ⟨(Nat.le_of_ble_eq_true rfl), (Nat.le_of_ble_eq_true rfl)⟩ ⟨(Nat.le_of_ble_eq_true rfl), (Nat.le_of_ble_eq_true rfl)⟩ (fun x1 S1 p1 z1 => ?_)
  obtain ⟨ok1, PR, m2, q2⟩ := q1 x1 S1 p1
  obtain ⟨M1, rfl⟩ := sOk_gs ok1
  refine r_aload_n dL_law_727 rfl rfl ?_
  refine r_callV_eI (ci := 12) dL_law_728 m2 mf_X12_night mi_X12_night se_X12_X12_X12_night ml_L_83 rfl rfl (Nat.le_of_ble_eq_true rfl) rfl (by decide) rfl (Nat.le_of_ble_eq_true rfl) ⟨(Nat.le_of_ble_eq_true rfl), (Nat.le_of_ble_eq_true rfl)⟩ ⟨(Nat.le_of_ble_eq_true rfl), (Nat.le_of_ble_eq_true rfl)⟩ (fun y1 S2 p2 z2 => ?_)
  obtain ⟨e, ok2, rs2⟩ := q2 y1 S2 p2
  exact r_icmp_eq (tgt := 1655) dL_law_731 (by decide) (fun _ => kk S2 ok2 rs2) (fun z => absurd e.symm z)
theorem lc_16 (g : pG) {L : Nat} {xs : Nat → Int32} (hL : L ≤ 2560) {i : Nat} (hi : i + 5 ≤ L) (kk : Go g L xs 1655 i) : Go g L xs 736 i := by
  intro S hS h
  obtain ⟨PC, m1, q1⟩ := tw_spoilt g hS h (xs (i + 1))
  obtain ⟨M, rfl⟩ := sOk_gs hS
  refine r_aload_n dL_law_736 rfl rfl ?_
  refine r_aload_n dL_law_737 rfl rfl ?_
  refine r_iload_n dL_law_738 rfl rfl ?_
  refine r_iconst (v := 1) dL_law_739 (by decide) ?_
  refine r_iaddN i 1 dL_law_740 ?_
  refine r_sld (j := i + 1) dL_law_741 rfl (by omega) hL ?_
  refine r_callV_eI (ci := 11) dL_law_742 m1 mf_X11_spoilt mi_X11_spoilt se_X11_X11_X11_spoilt ml_L_84 rfl rfl (Nat.le_of_ble_eq_true rfl) rfl (by decide) rfl (Nat.le_of_ble_eq_true rfl) ⟨(Nat.le_of_ble_eq_true rfl), (Nat.le_of_ble_eq_true rfl)⟩ ⟨(Nat.le_of_ble_eq_true rfl), (Nat.le_of_ble_eq_true rfl)⟩ (fun x1 S1 p1 z1 => ?_)
  obtain ⟨ok1, PR, m2, q2⟩ := q1 x1 S1 p1
  obtain ⟨M1, rfl⟩ := sOk_gs ok1
  refine r_aload_n dL_law_745 rfl rfl ?_
  refine r_aload_n dL_law_746 rfl rfl ?_
  refine r_iload_n dL_law_747 rfl rfl ?_
  refine r_iconst (v := 1) dL_law_748 (by decide) ?_
  refine r_iaddN i 1 dL_law_749 ?_
  refine r_sld (j := i + 1) dL_law_750 rfl (by omega) hL ?_
  refine r_callV_eI (ci := 12) dL_law_751 m2 mf_X12_spoilt mi_X12_spoilt se_X12_X12_X12_spoilt ml_L_87 rfl rfl (Nat.le_of_ble_eq_true rfl) rfl (by decide) rfl (Nat.le_of_ble_eq_true rfl) ⟨(Nat.le_of_ble_eq_true rfl), (Nat.le_of_ble_eq_true rfl)⟩ ⟨(Nat.le_of_ble_eq_true rfl), (Nat.le_of_ble_eq_true rfl)⟩ (fun y1 S2 p2 z2 => ?_)
  obtain ⟨e, ok2, rs2⟩ := q2 y1 S2 p2
  exact r_icmp_eq (tgt := 1655) dL_law_754 (by decide) (fun _ => kk S2 ok2 rs2) (fun z => absurd e.symm z)
theorem lc_17 (g : pG) {L : Nat} {xs : Nat → Int32} (hL : L ≤ 2560) {i : Nat} (hi : i + 5 ≤ L) (kk : Go g L xs 1655 i) : Go g L xs 759 i := by
  intro S hS h
  obtain ⟨PC, m1, q1⟩ := tw_state g hS h (xs (i + 1))
  obtain ⟨M, rfl⟩ := sOk_gs hS
  refine r_aload_n dL_law_759 rfl rfl ?_
  refine r_aload_n dL_law_760 rfl rfl ?_
  refine r_iload_n dL_law_761 rfl rfl ?_
  refine r_iconst (v := 1) dL_law_762 (by decide) ?_
  refine r_iaddN i 1 dL_law_763 ?_
  refine r_sld (j := i + 1) dL_law_764 rfl (by omega) hL ?_
  refine r_callV_eI (ci := 11) dL_law_765 m1 mf_X11_state mi_X11_state se_X11_X11_X11_state ml_L_88 rfl rfl (Nat.le_of_ble_eq_true rfl) rfl (by decide) rfl (Nat.le_of_ble_eq_true rfl) ⟨(Nat.le_of_ble_eq_true rfl), (Nat.le_of_ble_eq_true rfl)⟩ ⟨(Nat.le_of_ble_eq_true rfl), (Nat.le_of_ble_eq_true rfl)⟩ (fun x1 S1 p1 z1 => ?_)
  obtain ⟨ok1, PR, m2, q2⟩ := q1 x1 S1 p1
  obtain ⟨M1, rfl⟩ := sOk_gs ok1
  refine r_aload_n dL_law_768 rfl rfl ?_
  refine r_aload_n dL_law_769 rfl rfl ?_
  refine r_iload_n dL_law_770 rfl rfl ?_
  refine r_iconst (v := 1) dL_law_771 (by decide) ?_
  refine r_iaddN i 1 dL_law_772 ?_
  refine r_sld (j := i + 1) dL_law_773 rfl (by omega) hL ?_
  refine r_callV_eI (ci := 12) dL_law_774 m2 mf_X12_state mi_X12_state se_X12_X12_X12_state ml_L_91 rfl rfl (Nat.le_of_ble_eq_true rfl) rfl (by decide) rfl (Nat.le_of_ble_eq_true rfl) ⟨(Nat.le_of_ble_eq_true rfl), (Nat.le_of_ble_eq_true rfl)⟩ ⟨(Nat.le_of_ble_eq_true rfl), (Nat.le_of_ble_eq_true rfl)⟩ (fun y1 S2 p2 z2 => ?_)
  obtain ⟨e, ok2, rs2⟩ := q2 y1 S2 p2
  exact r_icmp_eq (tgt := 1655) dL_law_777 (by decide) (fun _ => kk S2 ok2 rs2) (fun z => absurd e.symm z)
theorem lc_18 (g : pG) {L : Nat} {xs : Nat → Int32} (hL : L ≤ 2560) {i : Nat} (hi : i + 5 ≤ L) (kk : Go g L xs 1655 i) : Go g L xs 782 i := by
  intro S hS h
  obtain ⟨PC, m1, q1⟩ := tw_knew g hS h (xs (i + 1)) (xs (i + 2)) (xs (i + 3))
  obtain ⟨M, rfl⟩ := sOk_gs hS
  refine r_aload_n dL_law_782 rfl rfl ?_
  refine r_aload_n dL_law_783 rfl rfl ?_
  refine r_iload_n dL_law_784 rfl rfl ?_
  refine r_iconst (v := 1) dL_law_785 (by decide) ?_
  refine r_iaddN i 1 dL_law_786 ?_
  refine r_sld (j := i + 1) dL_law_787 rfl (by omega) hL ?_
  refine r_aload_n dL_law_788 rfl rfl ?_
  refine r_iload_n dL_law_789 rfl rfl ?_
  refine r_iconst (v := 2) dL_law_790 (by decide) ?_
  refine r_iaddN i 2 dL_law_791 ?_
  refine r_sld (j := i + 2) dL_law_792 rfl (by omega) hL ?_
  refine r_aload_n dL_law_793 rfl rfl ?_
  refine r_iload_n dL_law_794 rfl rfl ?_
  refine r_iconst (v := 3) dL_law_795 (by decide) ?_
  refine r_iaddN i 3 dL_law_796 ?_
  refine r_sld (j := i + 3) dL_law_797 rfl (by omega) hL ?_
  refine r_callV_eI (ci := 11) dL_law_798 m1 mf_X11_knew mi_X11_knew se_X11_X11_X11_knew ml_L_92 rfl rfl (Nat.le_of_ble_eq_true rfl) rfl (by decide) rfl (Nat.le_of_ble_eq_true rfl) ⟨(Nat.le_of_ble_eq_true rfl), (Nat.le_of_ble_eq_true rfl)⟩ ⟨(Nat.le_of_ble_eq_true rfl), (Nat.le_of_ble_eq_true rfl)⟩ (fun x1 S1 p1 z1 => ?_)
  obtain ⟨ok1, PR, m2, q2⟩ := q1 x1 S1 p1
  obtain ⟨M1, rfl⟩ := sOk_gs ok1
  refine r_aload_n dL_law_801 rfl rfl ?_
  refine r_aload_n dL_law_802 rfl rfl ?_
  refine r_iload_n dL_law_803 rfl rfl ?_
  refine r_iconst (v := 1) dL_law_804 (by decide) ?_
  refine r_iaddN i 1 dL_law_805 ?_
  refine r_sld (j := i + 1) dL_law_806 rfl (by omega) hL ?_
  refine r_aload_n dL_law_807 rfl rfl ?_
  refine r_iload_n dL_law_808 rfl rfl ?_
  refine r_iconst (v := 2) dL_law_809 (by decide) ?_
  refine r_iaddN i 2 dL_law_810 ?_
  refine r_sld (j := i + 2) dL_law_811 rfl (by omega) hL ?_
  refine r_aload_n dL_law_812 rfl rfl ?_
  refine r_iload_n dL_law_813 rfl rfl ?_
  refine r_iconst (v := 3) dL_law_814 (by decide) ?_
  refine r_iaddN i 3 dL_law_815 ?_
  refine r_sld (j := i + 3) dL_law_816 rfl (by omega) hL ?_
  refine r_callV_eI (ci := 12) dL_law_817 m2 mf_X12_knew mi_X12_knew se_X12_X12_X12_knew ml_L_95 rfl rfl (Nat.le_of_ble_eq_true rfl) rfl (by decide) rfl (Nat.le_of_ble_eq_true rfl) ⟨(Nat.le_of_ble_eq_true rfl), (Nat.le_of_ble_eq_true rfl)⟩ ⟨(Nat.le_of_ble_eq_true rfl), (Nat.le_of_ble_eq_true rfl)⟩ (fun y1 S2 p2 z2 => ?_)
  obtain ⟨e, ok2, rs2⟩ := q2 y1 S2 p2
  exact r_icmp_eq (tgt := 1655) dL_law_820 (by decide) (fun _ => kk S2 ok2 rs2) (fun z => absurd e.symm z)
theorem lc_19 (g : pG) {L : Nat} {xs : Nat → Int32} (hL : L ≤ 2560) {i : Nat} (hi : i + 5 ≤ L) (kk : Go g L xs 1655 i) : Go g L xs 825 i := by
  intro S hS h
  obtain ⟨PC, m1, q1⟩ := tw_earned g hS h (xs (i + 1))
  obtain ⟨M, rfl⟩ := sOk_gs hS
  refine r_aload_n dL_law_825 rfl rfl ?_
  refine r_aload_n dL_law_826 rfl rfl ?_
  refine r_iload_n dL_law_827 rfl rfl ?_
  refine r_iconst (v := 1) dL_law_828 (by decide) ?_
  refine r_iaddN i 1 dL_law_829 ?_
  refine r_sld (j := i + 1) dL_law_830 rfl (by omega) hL ?_
  refine r_callV_eI (ci := 11) dL_law_831 m1 mf_X11_earned mi_X11_earned se_X11_X11_X11_earned ml_L_96 rfl rfl (Nat.le_of_ble_eq_true rfl) rfl (by decide) rfl (Nat.le_of_ble_eq_true rfl) ⟨(Nat.le_of_ble_eq_true rfl), (Nat.le_of_ble_eq_true rfl)⟩ ⟨(Nat.le_of_ble_eq_true rfl), (Nat.le_of_ble_eq_true rfl)⟩ (fun x1 S1 p1 z1 => ?_)
  obtain ⟨ok1, PR, m2, q2⟩ := q1 x1 S1 p1
  obtain ⟨M1, rfl⟩ := sOk_gs ok1
  refine r_aload_n dL_law_834 rfl rfl ?_
  refine r_aload_n dL_law_835 rfl rfl ?_
  refine r_iload_n dL_law_836 rfl rfl ?_
  refine r_iconst (v := 1) dL_law_837 (by decide) ?_
  refine r_iaddN i 1 dL_law_838 ?_
  refine r_sld (j := i + 1) dL_law_839 rfl (by omega) hL ?_
  refine r_callV_eI (ci := 12) dL_law_840 m2 mf_X12_earned mi_X12_earned se_X12_X12_X12_earned ml_L_99 rfl rfl (Nat.le_of_ble_eq_true rfl) rfl (by decide) rfl (Nat.le_of_ble_eq_true rfl) ⟨(Nat.le_of_ble_eq_true rfl), (Nat.le_of_ble_eq_true rfl)⟩ ⟨(Nat.le_of_ble_eq_true rfl), (Nat.le_of_ble_eq_true rfl)⟩ (fun y1 S2 p2 z2 => ?_)
  obtain ⟨e, ok2, rs2⟩ := q2 y1 S2 p2
  exact r_icmp_eq (tgt := 1655) dL_law_843 (by decide) (fun _ => kk S2 ok2 rs2) (fun z => absurd e.symm z)
theorem lc_20 (g : pG) {L : Nat} {xs : Nat → Int32} (hL : L ≤ 2560) {i : Nat} (hi : i + 5 ≤ L) (kk : Go g L xs 1655 i) : Go g L xs 848 i := by
  intro S hS h
  obtain ⟨PC, m1, q1⟩ := tw_plays g hS h (xs (i + 1)) (xs (i + 2))
  obtain ⟨M, rfl⟩ := sOk_gs hS
  refine r_aload_n dL_law_848 rfl rfl ?_
  refine r_aload_n dL_law_849 rfl rfl ?_
  refine r_iload_n dL_law_850 rfl rfl ?_
  refine r_iconst (v := 1) dL_law_851 (by decide) ?_
  refine r_iaddN i 1 dL_law_852 ?_
  refine r_sld (j := i + 1) dL_law_853 rfl (by omega) hL ?_
  refine r_aload_n dL_law_854 rfl rfl ?_
  refine r_iload_n dL_law_855 rfl rfl ?_
  refine r_iconst (v := 2) dL_law_856 (by decide) ?_
  refine r_iaddN i 2 dL_law_857 ?_
  refine r_sld (j := i + 2) dL_law_858 rfl (by omega) hL ?_
  refine r_callV_eI (ci := 11) dL_law_859 m1 mf_X11_plays mi_X11_plays se_X11_X11_X11_plays ml_L_100 rfl rfl (Nat.le_of_ble_eq_true rfl) rfl (by decide) rfl (Nat.le_of_ble_eq_true rfl) ⟨(Nat.le_of_ble_eq_true rfl), (Nat.le_of_ble_eq_true rfl)⟩ ⟨(Nat.le_of_ble_eq_true rfl), (Nat.le_of_ble_eq_true rfl)⟩ (fun x1 S1 p1 z1 => ?_)
  obtain ⟨ok1, PR, m2, q2⟩ := q1 x1 S1 p1
  obtain ⟨M1, rfl⟩ := sOk_gs ok1
  refine r_aload_n dL_law_862 rfl rfl ?_
  refine r_aload_n dL_law_863 rfl rfl ?_
  refine r_iload_n dL_law_864 rfl rfl ?_
  refine r_iconst (v := 1) dL_law_865 (by decide) ?_
  refine r_iaddN i 1 dL_law_866 ?_
  refine r_sld (j := i + 1) dL_law_867 rfl (by omega) hL ?_
  refine r_aload_n dL_law_868 rfl rfl ?_
  refine r_iload_n dL_law_869 rfl rfl ?_
  refine r_iconst (v := 2) dL_law_870 (by decide) ?_
  refine r_iaddN i 2 dL_law_871 ?_
  refine r_sld (j := i + 2) dL_law_872 rfl (by omega) hL ?_
  refine r_callV_eI (ci := 12) dL_law_873 m2 mf_X12_plays mi_X12_plays se_X12_X12_X12_plays ml_L_103 rfl rfl (Nat.le_of_ble_eq_true rfl) rfl (by decide) rfl (Nat.le_of_ble_eq_true rfl) ⟨(Nat.le_of_ble_eq_true rfl), (Nat.le_of_ble_eq_true rfl)⟩ ⟨(Nat.le_of_ble_eq_true rfl), (Nat.le_of_ble_eq_true rfl)⟩ (fun y1 S2 p2 z2 => ?_)
  obtain ⟨e, ok2, rs2⟩ := q2 y1 S2 p2
  exact r_icmp_eq (tgt := 1655) dL_law_876 (by decide) (fun _ => kk S2 ok2 rs2) (fun z => absurd e.symm z)
theorem lc_21 (g : pG) {L : Nat} {xs : Nat → Int32} (hL : L ≤ 2560) {i : Nat} (hi : i + 5 ≤ L) (kk : Go g L xs 1655 i) : Go g L xs 881 i := by
  intro S hS h
  obtain ⟨PC, m1, q1⟩ := tw_house g hS h
  obtain ⟨M, rfl⟩ := sOk_gs hS
  refine r_aload_n dL_law_881 rfl rfl ?_
  refine r_callV_eI (ci := 11) dL_law_882 m1 mf_X11_house mi_X11_house se_X11_X11_X11_house ml_L_104 rfl rfl (Nat.le_of_ble_eq_true rfl) rfl (by decide) rfl (Nat.le_of_ble_eq_true rfl) ⟨(Nat.le_of_ble_eq_true rfl), (Nat.le_of_ble_eq_true rfl)⟩ ⟨(Nat.le_of_ble_eq_true rfl), (Nat.le_of_ble_eq_true rfl)⟩ (fun x1 S1 p1 z1 => ?_)
  obtain ⟨ok1, PR, m2, q2⟩ := q1 x1 S1 p1
  obtain ⟨M1, rfl⟩ := sOk_gs ok1
  refine r_aload_n dL_law_885 rfl rfl ?_
  refine r_callV_eI (ci := 12) dL_law_886 m2 mf_X12_house mi_X12_house se_X12_X12_X12_house ml_L_107 rfl rfl (Nat.le_of_ble_eq_true rfl) rfl (by decide) rfl (Nat.le_of_ble_eq_true rfl) ⟨(Nat.le_of_ble_eq_true rfl), (Nat.le_of_ble_eq_true rfl)⟩ ⟨(Nat.le_of_ble_eq_true rfl), (Nat.le_of_ble_eq_true rfl)⟩ (fun y1 S2 p2 z2 => ?_)
  obtain ⟨e, ok2, rs2⟩ := q2 y1 S2 p2
  exact r_icmp_eq (tgt := 1655) dL_law_889 (by decide) (fun _ => kk S2 ok2 rs2) (fun z => absurd e.symm z)
theorem lc_22 (g : pG) {L : Nat} {xs : Nat → Int32} (hL : L ≤ 2560) {i : Nat} (hi : i + 5 ≤ L) (kk : Go g L xs 1655 i) : Go g L xs 894 i := by
  intro S hS h
  obtain ⟨PC, m1, q1⟩ := tw_worst g hS h
  obtain ⟨M, rfl⟩ := sOk_gs hS
  refine r_aload_n dL_law_894 rfl rfl ?_
  refine r_callV_eI (ci := 11) dL_law_895 m1 mf_X11_worst mi_X11_worst se_X11_X11_X11_worst ml_L_108 rfl rfl (Nat.le_of_ble_eq_true rfl) rfl (by decide) rfl (Nat.le_of_ble_eq_true rfl) ⟨(Nat.le_of_ble_eq_true rfl), (Nat.le_of_ble_eq_true rfl)⟩ ⟨(Nat.le_of_ble_eq_true rfl), (Nat.le_of_ble_eq_true rfl)⟩ (fun x1 S1 p1 z1 => ?_)
  obtain ⟨ok1, PR, m2, q2⟩ := q1 x1 S1 p1
  obtain ⟨M1, rfl⟩ := sOk_gs ok1
  refine r_aload_n dL_law_898 rfl rfl ?_
  refine r_callV_eI (ci := 12) dL_law_899 m2 mf_X12_worst mi_X12_worst se_X12_X12_X12_worst ml_L_111 rfl rfl (Nat.le_of_ble_eq_true rfl) rfl (by decide) rfl (Nat.le_of_ble_eq_true rfl) ⟨(Nat.le_of_ble_eq_true rfl), (Nat.le_of_ble_eq_true rfl)⟩ ⟨(Nat.le_of_ble_eq_true rfl), (Nat.le_of_ble_eq_true rfl)⟩ (fun y1 S2 p2 z2 => ?_)
  obtain ⟨e, ok2, rs2⟩ := q2 y1 S2 p2
  exact r_icmp_eq (tgt := 1655) dL_law_902 (by decide) (fun _ => kk S2 ok2 rs2) (fun z => absurd e.symm z)
theorem lc_23 (g : pG) {L : Nat} {xs : Nat → Int32} (hL : L ≤ 2560) {i : Nat} (hi : i + 5 ≤ L) (kk : Go g L xs 1655 i) : Go g L xs 907 i := by
  intro S hS h
  obtain ⟨PC, m1, q1⟩ := tw_kindFor g hS h (xs (i + 1)) (xs (i + 2))
  obtain ⟨M, rfl⟩ := sOk_gs hS
  refine r_aload_n dL_law_907 rfl rfl ?_
  refine r_aload_n dL_law_908 rfl rfl ?_
  refine r_iload_n dL_law_909 rfl rfl ?_
  refine r_iconst (v := 1) dL_law_910 (by decide) ?_
  refine r_iaddN i 1 dL_law_911 ?_
  refine r_sld (j := i + 1) dL_law_912 rfl (by omega) hL ?_
  refine r_aload_n dL_law_913 rfl rfl ?_
  refine r_iload_n dL_law_914 rfl rfl ?_
  refine r_iconst (v := 2) dL_law_915 (by decide) ?_
  refine r_iaddN i 2 dL_law_916 ?_
  refine r_sld (j := i + 2) dL_law_917 rfl (by omega) hL ?_
  refine r_callV_eI (ci := 11) dL_law_918 m1 mf_X11_kindFor mi_X11_kindFor se_X11_X11_X11_kindFor ml_L_112 rfl rfl (Nat.le_of_ble_eq_true rfl) rfl (by decide) rfl (Nat.le_of_ble_eq_true rfl) ⟨(Nat.le_of_ble_eq_true rfl), (Nat.le_of_ble_eq_true rfl)⟩ ⟨(Nat.le_of_ble_eq_true rfl), (Nat.le_of_ble_eq_true rfl)⟩ (fun x1 S1 p1 z1 => ?_)
  obtain ⟨ok1, PR, m2, q2⟩ := q1 x1 S1 p1
  obtain ⟨M1, rfl⟩ := sOk_gs ok1
  refine r_aload_n dL_law_921 rfl rfl ?_
  refine r_aload_n dL_law_922 rfl rfl ?_
  refine r_iload_n dL_law_923 rfl rfl ?_
  refine r_iconst (v := 1) dL_law_924 (by decide) ?_
  refine r_iaddN i 1 dL_law_925 ?_
  refine r_sld (j := i + 1) dL_law_926 rfl (by omega) hL ?_
  refine r_aload_n dL_law_927 rfl rfl ?_
  refine r_iload_n dL_law_928 rfl rfl ?_
  refine r_iconst (v := 2) dL_law_929 (by decide) ?_
  refine r_iaddN i 2 dL_law_930 ?_
  refine r_sld (j := i + 2) dL_law_931 rfl (by omega) hL ?_
  refine r_callV_eI (ci := 12) dL_law_932 m2 mf_X12_kindFor mi_X12_kindFor se_X12_X12_X12_kindFor ml_L_115 rfl rfl (Nat.le_of_ble_eq_true rfl) rfl (by decide) rfl (Nat.le_of_ble_eq_true rfl) ⟨(Nat.le_of_ble_eq_true rfl), (Nat.le_of_ble_eq_true rfl)⟩ ⟨(Nat.le_of_ble_eq_true rfl), (Nat.le_of_ble_eq_true rfl)⟩ (fun y1 S2 p2 z2 => ?_)
  obtain ⟨e, ok2, rs2⟩ := q2 y1 S2 p2
  exact r_icmp_eq (tgt := 1655) dL_law_935 (by decide) (fun _ => kk S2 ok2 rs2) (fun z => absurd e.symm z)
theorem lc_24 (g : pG) {L : Nat} {xs : Nat → Int32} (hL : L ≤ 2560) {i : Nat} (hi : i + 5 ≤ L) (kk : Go g L xs 1655 i) : Go g L xs 940 i := by
  intro S hS h
  obtain ⟨PC, m1, q1⟩ := tw_enoughFor g hS h (xs (i + 1)) (xs (i + 2))
  obtain ⟨M, rfl⟩ := sOk_gs hS
  refine r_aload_n dL_law_940 rfl rfl ?_
  refine r_aload_n dL_law_941 rfl rfl ?_
  refine r_iload_n dL_law_942 rfl rfl ?_
  refine r_iconst (v := 1) dL_law_943 (by decide) ?_
  refine r_iaddN i 1 dL_law_944 ?_
  refine r_sld (j := i + 1) dL_law_945 rfl (by omega) hL ?_
  refine r_aload_n dL_law_946 rfl rfl ?_
  refine r_iload_n dL_law_947 rfl rfl ?_
  refine r_iconst (v := 2) dL_law_948 (by decide) ?_
  refine r_iaddN i 2 dL_law_949 ?_
  refine r_sld (j := i + 2) dL_law_950 rfl (by omega) hL ?_
  refine r_callV_eI (ci := 11) dL_law_951 m1 mf_X11_enoughFor mi_X11_enoughFor se_X11_X11_X11_enoughFor ml_L_116 rfl rfl (Nat.le_of_ble_eq_true rfl) rfl (by decide) rfl (Nat.le_of_ble_eq_true rfl) ⟨(Nat.le_of_ble_eq_true rfl), (Nat.le_of_ble_eq_true rfl)⟩ ⟨(Nat.le_of_ble_eq_true rfl), (Nat.le_of_ble_eq_true rfl)⟩ (fun x1 S1 p1 z1 => ?_)
  obtain ⟨ok1, PR, m2, q2⟩ := q1 x1 S1 p1
  obtain ⟨M1, rfl⟩ := sOk_gs ok1
  refine r_aload_n dL_law_954 rfl rfl ?_
  refine r_aload_n dL_law_955 rfl rfl ?_
  refine r_iload_n dL_law_956 rfl rfl ?_
  refine r_iconst (v := 1) dL_law_957 (by decide) ?_
  refine r_iaddN i 1 dL_law_958 ?_
  refine r_sld (j := i + 1) dL_law_959 rfl (by omega) hL ?_
  refine r_aload_n dL_law_960 rfl rfl ?_
  refine r_iload_n dL_law_961 rfl rfl ?_
  refine r_iconst (v := 2) dL_law_962 (by decide) ?_
  refine r_iaddN i 2 dL_law_963 ?_
  refine r_sld (j := i + 2) dL_law_964 rfl (by omega) hL ?_
  refine r_callV_eI (ci := 12) dL_law_965 m2 mf_X12_enoughFor mi_X12_enoughFor se_X12_X12_X12_enoughFor ml_L_119 rfl rfl (Nat.le_of_ble_eq_true rfl) rfl (by decide) rfl (Nat.le_of_ble_eq_true rfl) ⟨(Nat.le_of_ble_eq_true rfl), (Nat.le_of_ble_eq_true rfl)⟩ ⟨(Nat.le_of_ble_eq_true rfl), (Nat.le_of_ble_eq_true rfl)⟩ (fun y1 S2 p2 z2 => ?_)
  obtain ⟨e, ok2, rs2⟩ := q2 y1 S2 p2
  exact r_icmp_eq (tgt := 1655) dL_law_968 (by decide) (fun _ => kk S2 ok2 rs2) (fun z => absurd e.symm z)
theorem lc_25 (g : pG) {L : Nat} {xs : Nat → Int32} (hL : L ≤ 2560) {i : Nat} (hi : i + 5 ≤ L) (kk : Go g L xs 1655 i) : Go g L xs 973 i := by
  intro S hS h
  obtain ⟨PC, m1, q1⟩ := tw_learnerFor g hS h (xs (i + 1)) (xs (i + 2))
  obtain ⟨M, rfl⟩ := sOk_gs hS
  refine r_aload_n dL_law_973 rfl rfl ?_
  refine r_aload_n dL_law_974 rfl rfl ?_
  refine r_iload_n dL_law_975 rfl rfl ?_
  refine r_iconst (v := 1) dL_law_976 (by decide) ?_
  refine r_iaddN i 1 dL_law_977 ?_
  refine r_sld (j := i + 1) dL_law_978 rfl (by omega) hL ?_
  refine r_aload_n dL_law_979 rfl rfl ?_
  refine r_iload_n dL_law_980 rfl rfl ?_
  refine r_iconst (v := 2) dL_law_981 (by decide) ?_
  refine r_iaddN i 2 dL_law_982 ?_
  refine r_sld (j := i + 2) dL_law_983 rfl (by omega) hL ?_
  refine r_callV_eI (ci := 11) dL_law_984 m1 mf_X11_learnerFor mi_X11_learnerFor se_X11_X11_X11_learnerFor ml_L_120 rfl rfl (Nat.le_of_ble_eq_true rfl) rfl (by decide) rfl (Nat.le_of_ble_eq_true rfl) ⟨(Nat.le_of_ble_eq_true rfl), (Nat.le_of_ble_eq_true rfl)⟩ ⟨(Nat.le_of_ble_eq_true rfl), (Nat.le_of_ble_eq_true rfl)⟩ (fun x1 S1 p1 z1 => ?_)
  obtain ⟨ok1, PR, m2, q2⟩ := q1 x1 S1 p1
  obtain ⟨M1, rfl⟩ := sOk_gs ok1
  refine r_aload_n dL_law_987 rfl rfl ?_
  refine r_aload_n dL_law_988 rfl rfl ?_
  refine r_iload_n dL_law_989 rfl rfl ?_
  refine r_iconst (v := 1) dL_law_990 (by decide) ?_
  refine r_iaddN i 1 dL_law_991 ?_
  refine r_sld (j := i + 1) dL_law_992 rfl (by omega) hL ?_
  refine r_aload_n dL_law_993 rfl rfl ?_
  refine r_iload_n dL_law_994 rfl rfl ?_
  refine r_iconst (v := 2) dL_law_995 (by decide) ?_
  refine r_iaddN i 2 dL_law_996 ?_
  refine r_sld (j := i + 2) dL_law_997 rfl (by omega) hL ?_
  refine r_callV_eI (ci := 12) dL_law_998 m2 mf_X12_learnerFor mi_X12_learnerFor se_X12_X12_X12_learnerFor ml_L_123 rfl rfl (Nat.le_of_ble_eq_true rfl) rfl (by decide) rfl (Nat.le_of_ble_eq_true rfl) ⟨(Nat.le_of_ble_eq_true rfl), (Nat.le_of_ble_eq_true rfl)⟩ ⟨(Nat.le_of_ble_eq_true rfl), (Nat.le_of_ble_eq_true rfl)⟩ (fun y1 S2 p2 z2 => ?_)
  obtain ⟨e, ok2, rs2⟩ := q2 y1 S2 p2
  exact r_icmp_eq (tgt := 1655) dL_law_1001 (by decide) (fun _ => kk S2 ok2 rs2) (fun z => absurd e.symm z)
theorem lc_26 (g : pG) {L : Nat} {xs : Nat → Int32} (hL : L ≤ 2560) {i : Nat} (hi : i + 5 ≤ L) (kk : Go g L xs 1655 i) : Go g L xs 1006 i := by
  intro S hS h
  obtain ⟨PC, m1, q1⟩ := tw_fewestFor g hS h (xs (i + 1))
  obtain ⟨M, rfl⟩ := sOk_gs hS
  refine r_aload_n dL_law_1006 rfl rfl ?_
  refine r_aload_n dL_law_1007 rfl rfl ?_
  refine r_iload_n dL_law_1008 rfl rfl ?_
  refine r_iconst (v := 1) dL_law_1009 (by decide) ?_
  refine r_iaddN i 1 dL_law_1010 ?_
  refine r_sld (j := i + 1) dL_law_1011 rfl (by omega) hL ?_
  refine r_callV_eI (ci := 11) dL_law_1012 m1 mf_X11_fewestFor mi_X11_fewestFor se_X11_X11_X11_fewestFor ml_L_124 rfl rfl (Nat.le_of_ble_eq_true rfl) rfl (by decide) rfl (Nat.le_of_ble_eq_true rfl) ⟨(Nat.le_of_ble_eq_true rfl), (Nat.le_of_ble_eq_true rfl)⟩ ⟨(Nat.le_of_ble_eq_true rfl), (Nat.le_of_ble_eq_true rfl)⟩ (fun x1 S1 p1 z1 => ?_)
  obtain ⟨ok1, PR, m2, q2⟩ := q1 x1 S1 p1
  obtain ⟨M1, rfl⟩ := sOk_gs ok1
  refine r_aload_n dL_law_1015 rfl rfl ?_
  refine r_aload_n dL_law_1016 rfl rfl ?_
  refine r_iload_n dL_law_1017 rfl rfl ?_
  refine r_iconst (v := 1) dL_law_1018 (by decide) ?_
  refine r_iaddN i 1 dL_law_1019 ?_
  refine r_sld (j := i + 1) dL_law_1020 rfl (by omega) hL ?_
  refine r_callV_eI (ci := 12) dL_law_1021 m2 mf_X12_fewestFor mi_X12_fewestFor se_X12_X12_X12_fewestFor ml_L_127 rfl rfl (Nat.le_of_ble_eq_true rfl) rfl (by decide) rfl (Nat.le_of_ble_eq_true rfl) ⟨(Nat.le_of_ble_eq_true rfl), (Nat.le_of_ble_eq_true rfl)⟩ ⟨(Nat.le_of_ble_eq_true rfl), (Nat.le_of_ble_eq_true rfl)⟩ (fun y1 S2 p2 z2 => ?_)
  obtain ⟨e, ok2, rs2⟩ := q2 y1 S2 p2
  exact r_icmp_eq (tgt := 1655) dL_law_1024 (by decide) (fun _ => kk S2 ok2 rs2) (fun z => absurd e.symm z)
theorem lc_27 (g : pG) {L : Nat} {xs : Nat → Int32} (hL : L ≤ 2560) {i : Nat} (hi : i + 5 ≤ L) (kk : Go g L xs 1655 i) : Go g L xs 1029 i := by
  intro S hS h
  obtain ⟨PC, m1, q1⟩ := tw_fits g hS h (xs (i + 1)) (xs (i + 2)) (xs (i + 3))
  obtain ⟨M, rfl⟩ := sOk_gs hS
  refine r_aload_n dL_law_1029 rfl rfl ?_
  refine r_aload_n dL_law_1030 rfl rfl ?_
  refine r_iload_n dL_law_1031 rfl rfl ?_
  refine r_iconst (v := 1) dL_law_1032 (by decide) ?_
  refine r_iaddN i 1 dL_law_1033 ?_
  refine r_sld (j := i + 1) dL_law_1034 rfl (by omega) hL ?_
  refine r_aload_n dL_law_1035 rfl rfl ?_
  refine r_iload_n dL_law_1036 rfl rfl ?_
  refine r_iconst (v := 2) dL_law_1037 (by decide) ?_
  refine r_iaddN i 2 dL_law_1038 ?_
  refine r_sld (j := i + 2) dL_law_1039 rfl (by omega) hL ?_
  refine r_aload_n dL_law_1040 rfl rfl ?_
  refine r_iload_n dL_law_1041 rfl rfl ?_
  refine r_iconst (v := 3) dL_law_1042 (by decide) ?_
  refine r_iaddN i 3 dL_law_1043 ?_
  refine r_sld (j := i + 3) dL_law_1044 rfl (by omega) hL ?_
  refine r_callV_eI (ci := 11) dL_law_1045 m1 mf_X11_fits mi_X11_fits se_X11_X11_X11_fits ml_L_128 rfl rfl (Nat.le_of_ble_eq_true rfl) rfl (by decide) rfl (Nat.le_of_ble_eq_true rfl) ⟨(Nat.le_of_ble_eq_true rfl), (Nat.le_of_ble_eq_true rfl)⟩ ⟨(Nat.le_of_ble_eq_true rfl), (Nat.le_of_ble_eq_true rfl)⟩ (fun x1 S1 p1 z1 => ?_)
  obtain ⟨ok1, PR, m2, q2⟩ := q1 x1 S1 p1
  obtain ⟨M1, rfl⟩ := sOk_gs ok1
  refine r_aload_n dL_law_1048 rfl rfl ?_
  refine r_aload_n dL_law_1049 rfl rfl ?_
  refine r_iload_n dL_law_1050 rfl rfl ?_
  refine r_iconst (v := 1) dL_law_1051 (by decide) ?_
  refine r_iaddN i 1 dL_law_1052 ?_
  refine r_sld (j := i + 1) dL_law_1053 rfl (by omega) hL ?_
  refine r_aload_n dL_law_1054 rfl rfl ?_
  refine r_iload_n dL_law_1055 rfl rfl ?_
  refine r_iconst (v := 2) dL_law_1056 (by decide) ?_
  refine r_iaddN i 2 dL_law_1057 ?_
  refine r_sld (j := i + 2) dL_law_1058 rfl (by omega) hL ?_
  refine r_aload_n dL_law_1059 rfl rfl ?_
  refine r_iload_n dL_law_1060 rfl rfl ?_
  refine r_iconst (v := 3) dL_law_1061 (by decide) ?_
  refine r_iaddN i 3 dL_law_1062 ?_
  refine r_sld (j := i + 3) dL_law_1063 rfl (by omega) hL ?_
  refine r_callV_eI (ci := 12) dL_law_1064 m2 mf_X12_fits mi_X12_fits se_X12_X12_X12_fits ml_L_131 rfl rfl (Nat.le_of_ble_eq_true rfl) rfl (by decide) rfl (Nat.le_of_ble_eq_true rfl) ⟨(Nat.le_of_ble_eq_true rfl), (Nat.le_of_ble_eq_true rfl)⟩ ⟨(Nat.le_of_ble_eq_true rfl), (Nat.le_of_ble_eq_true rfl)⟩ (fun y1 S2 p2 z2 => ?_)
  obtain ⟨e, ok2, rs2⟩ := q2 y1 S2 p2
  exact r_icmp_eq (tgt := 1655) dL_law_1067 (by decide) (fun _ => kk S2 ok2 rs2) (fun z => absurd e.symm z)
theorem lc_28 (g : pG) {L : Nat} {xs : Nat → Int32} (hL : L ≤ 2560) {i : Nat} (hi : i + 5 ≤ L) (kk : Go g L xs 1655 i) : Go g L xs 1072 i := by
  intro S hS h
  obtain ⟨v, m1, m2⟩ := tw_odds g hS h (xs (i + 1)) (xs (i + 2)) (xs (i + 3))
  obtain ⟨M, rfl⟩ := sOk_gs hS
  refine r_aload_n dL_law_1072 rfl rfl ?_
  refine r_aload_n dL_law_1073 rfl rfl ?_
  refine r_iload_n dL_law_1074 rfl rfl ?_
  refine r_iconst (v := 1) dL_law_1075 (by decide) ?_
  refine r_iaddN i 1 dL_law_1076 ?_
  refine r_sld (j := i + 1) dL_law_1077 rfl (by omega) hL ?_
  refine r_aload_n dL_law_1078 rfl rfl ?_
  refine r_iload_n dL_law_1079 rfl rfl ?_
  refine r_iconst (v := 2) dL_law_1080 (by decide) ?_
  refine r_iaddN i 2 dL_law_1081 ?_
  refine r_sld (j := i + 2) dL_law_1082 rfl (by omega) hL ?_
  refine r_aload_n dL_law_1083 rfl rfl ?_
  refine r_iload_n dL_law_1084 rfl rfl ?_
  refine r_iconst (v := 3) dL_law_1085 (by decide) ?_
  refine r_iaddN i 3 dL_law_1086 ?_
  refine r_sld (j := i + 3) dL_law_1087 rfl (by omega) hL ?_
  refine r_callV_dL (ci := 11) dL_law_1088 m1 mf_X11_odds mi_X11_odds se_X11_X11_X11_odds ml_L_132 rfl rfl (Nat.le_of_ble_eq_true rfl) rfl (by decide) rfl (Nat.le_of_ble_eq_true rfl) ⟨(Nat.le_of_ble_eq_true rfl), (Nat.le_of_ble_eq_true rfl)⟩ ⟨(Nat.le_of_ble_eq_true rfl), (Nat.le_of_ble_eq_true rfl)⟩ ?_
  refine r_aload_n dL_law_1091 rfl rfl ?_
  refine r_aload_n dL_law_1092 rfl rfl ?_
  refine r_iload_n dL_law_1093 rfl rfl ?_
  refine r_iconst (v := 1) dL_law_1094 (by decide) ?_
  refine r_iaddN i 1 dL_law_1095 ?_
  refine r_sld (j := i + 1) dL_law_1096 rfl (by omega) hL ?_
  refine r_aload_n dL_law_1097 rfl rfl ?_
  refine r_iload_n dL_law_1098 rfl rfl ?_
  refine r_iconst (v := 2) dL_law_1099 (by decide) ?_
  refine r_iaddN i 2 dL_law_1100 ?_
  refine r_sld (j := i + 2) dL_law_1101 rfl (by omega) hL ?_
  refine r_aload_n dL_law_1102 rfl rfl ?_
  refine r_iload_n dL_law_1103 rfl rfl ?_
  refine r_iconst (v := 3) dL_law_1104 (by decide) ?_
  refine r_iaddN i 3 dL_law_1105 ?_
  refine r_sld (j := i + 3) dL_law_1106 rfl (by omega) hL ?_
  refine r_callV_dL (ci := 12) dL_law_1107 m2 mf_X12_odds mi_X12_odds se_X12_X12_X12_odds ml_L_136 rfl rfl (Nat.le_of_ble_eq_true rfl) rfl (by decide) rfl (Nat.le_of_ble_eq_true rfl) ⟨(Nat.le_of_ble_eq_true rfl), (Nat.le_of_ble_eq_true rfl)⟩ ⟨(Nat.le_of_ble_eq_true rfl), (Nat.le_of_ble_eq_true rfl)⟩ ?_
  refine r_lcmp dL_law_1110 ?_
  rw [cmp_self]
  exact r_if_eq (tgt := 1655) dL_law_1111 (by decide) (fun _ => kk _ hS h) (fun z => absurd rfl z)
theorem lc_29 (g : pG) {L : Nat} {xs : Nat → Int32} (hL : L ≤ 2560) {i : Nat} (hi : i + 5 ≤ L) (kk : Go g L xs 1655 i) : Go g L xs 1116 i := by
  intro S hS h
  obtain ⟨v, m1, m2⟩ := tw_hope g hS h (xs (i + 1)) (xs (i + 2))
  obtain ⟨M, rfl⟩ := sOk_gs hS
  refine r_aload_n dL_law_1116 rfl rfl ?_
  refine r_aload_n dL_law_1117 rfl rfl ?_
  refine r_iload_n dL_law_1118 rfl rfl ?_
  refine r_iconst (v := 1) dL_law_1119 (by decide) ?_
  refine r_iaddN i 1 dL_law_1120 ?_
  refine r_sld (j := i + 1) dL_law_1121 rfl (by omega) hL ?_
  refine r_aload_n dL_law_1122 rfl rfl ?_
  refine r_iload_n dL_law_1123 rfl rfl ?_
  refine r_iconst (v := 2) dL_law_1124 (by decide) ?_
  refine r_iaddN i 2 dL_law_1125 ?_
  refine r_sld (j := i + 2) dL_law_1126 rfl (by omega) hL ?_
  refine r_callV_dL (ci := 11) dL_law_1127 m1 mf_X11_hope mi_X11_hope se_X11_X11_X11_hope ml_L_137 rfl rfl (Nat.le_of_ble_eq_true rfl) rfl (by decide) rfl (Nat.le_of_ble_eq_true rfl) ⟨(Nat.le_of_ble_eq_true rfl), (Nat.le_of_ble_eq_true rfl)⟩ ⟨(Nat.le_of_ble_eq_true rfl), (Nat.le_of_ble_eq_true rfl)⟩ ?_
  refine r_aload_n dL_law_1130 rfl rfl ?_
  refine r_aload_n dL_law_1131 rfl rfl ?_
  refine r_iload_n dL_law_1132 rfl rfl ?_
  refine r_iconst (v := 1) dL_law_1133 (by decide) ?_
  refine r_iaddN i 1 dL_law_1134 ?_
  refine r_sld (j := i + 1) dL_law_1135 rfl (by omega) hL ?_
  refine r_aload_n dL_law_1136 rfl rfl ?_
  refine r_iload_n dL_law_1137 rfl rfl ?_
  refine r_iconst (v := 2) dL_law_1138 (by decide) ?_
  refine r_iaddN i 2 dL_law_1139 ?_
  refine r_sld (j := i + 2) dL_law_1140 rfl (by omega) hL ?_
  refine r_callV_dL (ci := 12) dL_law_1141 m2 mf_X12_hope mi_X12_hope se_X12_X12_X12_hope ml_L_141 rfl rfl (Nat.le_of_ble_eq_true rfl) rfl (by decide) rfl (Nat.le_of_ble_eq_true rfl) ⟨(Nat.le_of_ble_eq_true rfl), (Nat.le_of_ble_eq_true rfl)⟩ ⟨(Nat.le_of_ble_eq_true rfl), (Nat.le_of_ble_eq_true rfl)⟩ ?_
  refine r_lcmp dL_law_1144 ?_
  rw [cmp_self]
  exact r_if_eq (tgt := 1655) dL_law_1145 (by decide) (fun _ => kk _ hS h) (fun z => absurd rfl z)
theorem lc_30 (g : pG) {L : Nat} {xs : Nat → Int32} (hL : L ≤ 2560) {i : Nat} (hi : i + 5 ≤ L) (kk : Go g L xs 1655 i) : Go g L xs 1150 i := by
  intro S hS h
  obtain ⟨PC, m1, q1⟩ := tw_prove g hS h (xs (i + 1)) (xs (i + 2))
  obtain ⟨M, rfl⟩ := sOk_gs hS
  refine r_aload_n dL_law_1150 rfl rfl ?_
  refine r_aload_n dL_law_1151 rfl rfl ?_
  refine r_iload_n dL_law_1152 rfl rfl ?_
  refine r_iconst (v := 1) dL_law_1153 (by decide) ?_
  refine r_iaddN i 1 dL_law_1154 ?_
  refine r_sld (j := i + 1) dL_law_1155 rfl (by omega) hL ?_
  refine r_aload_n dL_law_1156 rfl rfl ?_
  refine r_iload_n dL_law_1157 rfl rfl ?_
  refine r_iconst (v := 2) dL_law_1158 (by decide) ?_
  refine r_iaddN i 2 dL_law_1159 ?_
  refine r_sld (j := i + 2) dL_law_1160 rfl (by omega) hL ?_
  refine r_callV_eI (ci := 11) dL_law_1161 m1 mf_X11_prove mi_X11_prove se_X11_X11_X11_prove ml_L_142 rfl rfl (Nat.le_of_ble_eq_true rfl) rfl (by decide) rfl (Nat.le_of_ble_eq_true rfl) ⟨(Nat.le_of_ble_eq_true rfl), (Nat.le_of_ble_eq_true rfl)⟩ ⟨(Nat.le_of_ble_eq_true rfl), (Nat.le_of_ble_eq_true rfl)⟩ (fun x1 S1 p1 z1 => ?_)
  obtain ⟨ok1, PR, m2, q2⟩ := q1 x1 S1 p1
  obtain ⟨M1, rfl⟩ := sOk_gs ok1
  refine r_aload_n dL_law_1164 rfl rfl ?_
  refine r_aload_n dL_law_1165 rfl rfl ?_
  refine r_iload_n dL_law_1166 rfl rfl ?_
  refine r_iconst (v := 1) dL_law_1167 (by decide) ?_
  refine r_iaddN i 1 dL_law_1168 ?_
  refine r_sld (j := i + 1) dL_law_1169 rfl (by omega) hL ?_
  refine r_aload_n dL_law_1170 rfl rfl ?_
  refine r_iload_n dL_law_1171 rfl rfl ?_
  refine r_iconst (v := 2) dL_law_1172 (by decide) ?_
  refine r_iaddN i 2 dL_law_1173 ?_
  refine r_sld (j := i + 2) dL_law_1174 rfl (by omega) hL ?_
  refine r_callV_eI (ci := 12) dL_law_1175 m2 mf_X12_prove mi_X12_prove se_X12_X12_X12_prove ml_L_145 rfl rfl (Nat.le_of_ble_eq_true rfl) rfl (by decide) rfl (Nat.le_of_ble_eq_true rfl) ⟨(Nat.le_of_ble_eq_true rfl), (Nat.le_of_ble_eq_true rfl)⟩ ⟨(Nat.le_of_ble_eq_true rfl), (Nat.le_of_ble_eq_true rfl)⟩ (fun y1 S2 p2 z2 => ?_)
  obtain ⟨e, ok2, rs2⟩ := q2 y1 S2 p2
  exact r_icmp_eq (tgt := 1655) dL_law_1178 (by decide) (fun _ => kk S2 ok2 rs2) (fun z => absurd e.symm z)
theorem lc_31 (g : pG) {L : Nat} {xs : Nat → Int32} (hL : L ≤ 2560) {i : Nat} (hi : i + 5 ≤ L) (kk : Go g L xs 1655 i) : Go g L xs 1183 i := by
  intro S hS h
  obtain ⟨PC, m1, q1⟩ := tw_row g hS h (xs (i + 1)) (xs (i + 2))
  obtain ⟨M, rfl⟩ := sOk_gs hS
  refine r_aload_n dL_law_1183 rfl rfl ?_
  refine r_aload_n dL_law_1184 rfl rfl ?_
  refine r_iload_n dL_law_1185 rfl rfl ?_
  refine r_iconst (v := 1) dL_law_1186 (by decide) ?_
  refine r_iaddN i 1 dL_law_1187 ?_
  refine r_sld (j := i + 1) dL_law_1188 rfl (by omega) hL ?_
  refine r_aload_n dL_law_1189 rfl rfl ?_
  refine r_iload_n dL_law_1190 rfl rfl ?_
  refine r_iconst (v := 2) dL_law_1191 (by decide) ?_
  refine r_iaddN i 2 dL_law_1192 ?_
  refine r_sld (j := i + 2) dL_law_1193 rfl (by omega) hL ?_
  refine r_callV_eI (ci := 11) dL_law_1194 m1 mf_X11_row mi_X11_row se_X11_X11_X11_row ml_L_146 rfl rfl (Nat.le_of_ble_eq_true rfl) rfl (by decide) rfl (Nat.le_of_ble_eq_true rfl) ⟨(Nat.le_of_ble_eq_true rfl), (Nat.le_of_ble_eq_true rfl)⟩ ⟨(Nat.le_of_ble_eq_true rfl), (Nat.le_of_ble_eq_true rfl)⟩ (fun x1 S1 p1 z1 => ?_)
  obtain ⟨ok1, PR, m2, q2⟩ := q1 x1 S1 p1
  obtain ⟨M1, rfl⟩ := sOk_gs ok1
  refine r_aload_n dL_law_1197 rfl rfl ?_
  refine r_aload_n dL_law_1198 rfl rfl ?_
  refine r_iload_n dL_law_1199 rfl rfl ?_
  refine r_iconst (v := 1) dL_law_1200 (by decide) ?_
  refine r_iaddN i 1 dL_law_1201 ?_
  refine r_sld (j := i + 1) dL_law_1202 rfl (by omega) hL ?_
  refine r_aload_n dL_law_1203 rfl rfl ?_
  refine r_iload_n dL_law_1204 rfl rfl ?_
  refine r_iconst (v := 2) dL_law_1205 (by decide) ?_
  refine r_iaddN i 2 dL_law_1206 ?_
  refine r_sld (j := i + 2) dL_law_1207 rfl (by omega) hL ?_
  refine r_callV_eI (ci := 12) dL_law_1208 m2 mf_X12_row mi_X12_row se_X12_X12_X12_row ml_L_149 rfl rfl (Nat.le_of_ble_eq_true rfl) rfl (by decide) rfl (Nat.le_of_ble_eq_true rfl) ⟨(Nat.le_of_ble_eq_true rfl), (Nat.le_of_ble_eq_true rfl)⟩ ⟨(Nat.le_of_ble_eq_true rfl), (Nat.le_of_ble_eq_true rfl)⟩ (fun y1 S2 p2 z2 => ?_)
  obtain ⟨e, ok2, rs2⟩ := q2 y1 S2 p2
  exact r_icmp_eq (tgt := 1655) dL_law_1211 (by decide) (fun _ => kk S2 ok2 rs2) (fun z => absurd e.symm z)
theorem lc_32 (g : pG) {L : Nat} {xs : Nat → Int32} (hL : L ≤ 2560) {i : Nat} (hi : i + 5 ≤ L) (kk : Go g L xs 1655 i) : Go g L xs 1216 i := by
  intro S hS h
  obtain ⟨PC, m1, q1⟩ := tw_alterRow g hS h (xs (i + 1)) (xs (i + 2)) (xs (i + 3))
  obtain ⟨M, rfl⟩ := sOk_gs hS
  refine r_aload_n dL_law_1216 rfl rfl ?_
  refine r_aload_n dL_law_1217 rfl rfl ?_
  refine r_iload_n dL_law_1218 rfl rfl ?_
  refine r_iconst (v := 1) dL_law_1219 (by decide) ?_
  refine r_iaddN i 1 dL_law_1220 ?_
  refine r_sld (j := i + 1) dL_law_1221 rfl (by omega) hL ?_
  refine r_aload_n dL_law_1222 rfl rfl ?_
  refine r_iload_n dL_law_1223 rfl rfl ?_
  refine r_iconst (v := 2) dL_law_1224 (by decide) ?_
  refine r_iaddN i 2 dL_law_1225 ?_
  refine r_sld (j := i + 2) dL_law_1226 rfl (by omega) hL ?_
  refine r_aload_n dL_law_1227 rfl rfl ?_
  refine r_iload_n dL_law_1228 rfl rfl ?_
  refine r_iconst (v := 3) dL_law_1229 (by decide) ?_
  refine r_iaddN i 3 dL_law_1230 ?_
  refine r_sld (j := i + 3) dL_law_1231 rfl (by omega) hL ?_
  refine r_callV_eI (ci := 11) dL_law_1232 m1 mf_X11_alterRow mi_X11_alterRow se_X11_X11_X11_alterRow ml_L_150 rfl rfl (Nat.le_of_ble_eq_true rfl) rfl (by decide) rfl (Nat.le_of_ble_eq_true rfl) ⟨(Nat.le_of_ble_eq_true rfl), (Nat.le_of_ble_eq_true rfl)⟩ ⟨(Nat.le_of_ble_eq_true rfl), (Nat.le_of_ble_eq_true rfl)⟩ (fun x1 S1 p1 z1 => ?_)
  obtain ⟨ok1, PR, m2, q2⟩ := q1 x1 S1 p1
  obtain ⟨M1, rfl⟩ := sOk_gs ok1
  refine r_aload_n dL_law_1235 rfl rfl ?_
  refine r_aload_n dL_law_1236 rfl rfl ?_
  refine r_iload_n dL_law_1237 rfl rfl ?_
  refine r_iconst (v := 1) dL_law_1238 (by decide) ?_
  refine r_iaddN i 1 dL_law_1239 ?_
  refine r_sld (j := i + 1) dL_law_1240 rfl (by omega) hL ?_
  refine r_aload_n dL_law_1241 rfl rfl ?_
  refine r_iload_n dL_law_1242 rfl rfl ?_
  refine r_iconst (v := 2) dL_law_1243 (by decide) ?_
  refine r_iaddN i 2 dL_law_1244 ?_
  refine r_sld (j := i + 2) dL_law_1245 rfl (by omega) hL ?_
  refine r_aload_n dL_law_1246 rfl rfl ?_
  refine r_iload_n dL_law_1247 rfl rfl ?_
  refine r_iconst (v := 3) dL_law_1248 (by decide) ?_
  refine r_iaddN i 3 dL_law_1249 ?_
  refine r_sld (j := i + 3) dL_law_1250 rfl (by omega) hL ?_
  refine r_callV_eI (ci := 12) dL_law_1251 m2 mf_X12_alterRow mi_X12_alterRow se_X12_X12_X12_alterRow ml_L_153 rfl rfl (Nat.le_of_ble_eq_true rfl) rfl (by decide) rfl (Nat.le_of_ble_eq_true rfl) ⟨(Nat.le_of_ble_eq_true rfl), (Nat.le_of_ble_eq_true rfl)⟩ ⟨(Nat.le_of_ble_eq_true rfl), (Nat.le_of_ble_eq_true rfl)⟩ (fun y1 S2 p2 z2 => ?_)
  obtain ⟨e, ok2, rs2⟩ := q2 y1 S2 p2
  exact r_icmp_eq (tgt := 1655) dL_law_1254 (by decide) (fun _ => kk S2 ok2 rs2) (fun z => absurd e.symm z)
theorem lc_33 (g : pG) {L : Nat} {xs : Nat → Int32} (hL : L ≤ 2560) {i : Nat} (hi : i + 5 ≤ L) (kk : Go g L xs 1655 i) : Go g L xs 1259 i := by
  intro S hS h
  obtain ⟨PC, m1, q1⟩ := tw_judge g hS h (xs (i + 1))
  obtain ⟨M, rfl⟩ := sOk_gs hS
  refine r_aload_n dL_law_1259 rfl rfl ?_
  refine r_aload_n dL_law_1260 rfl rfl ?_
  refine r_iload_n dL_law_1261 rfl rfl ?_
  refine r_iconst (v := 1) dL_law_1262 (by decide) ?_
  refine r_iaddN i 1 dL_law_1263 ?_
  refine r_sld (j := i + 1) dL_law_1264 rfl (by omega) hL ?_
  refine r_callV_eI (ci := 11) dL_law_1265 m1 mf_X11_judge mi_X11_judge se_X11_X11_X11_judge ml_L_154 rfl rfl (Nat.le_of_ble_eq_true rfl) rfl (by decide) rfl (Nat.le_of_ble_eq_true rfl) ⟨(Nat.le_of_ble_eq_true rfl), (Nat.le_of_ble_eq_true rfl)⟩ ⟨(Nat.le_of_ble_eq_true rfl), (Nat.le_of_ble_eq_true rfl)⟩ (fun x1 S1 p1 z1 => ?_)
  obtain ⟨ok1, PR, m2, q2⟩ := q1 x1 S1 p1
  obtain ⟨M1, rfl⟩ := sOk_gs ok1
  refine r_aload_n dL_law_1268 rfl rfl ?_
  refine r_aload_n dL_law_1269 rfl rfl ?_
  refine r_iload_n dL_law_1270 rfl rfl ?_
  refine r_iconst (v := 1) dL_law_1271 (by decide) ?_
  refine r_iaddN i 1 dL_law_1272 ?_
  refine r_sld (j := i + 1) dL_law_1273 rfl (by omega) hL ?_
  refine r_callV_eI (ci := 12) dL_law_1274 m2 mf_X12_judge mi_X12_judge se_X12_X12_X12_judge ml_L_157 rfl rfl (Nat.le_of_ble_eq_true rfl) rfl (by decide) rfl (Nat.le_of_ble_eq_true rfl) ⟨(Nat.le_of_ble_eq_true rfl), (Nat.le_of_ble_eq_true rfl)⟩ ⟨(Nat.le_of_ble_eq_true rfl), (Nat.le_of_ble_eq_true rfl)⟩ (fun y1 S2 p2 z2 => ?_)
  obtain ⟨e, ok2, rs2⟩ := q2 y1 S2 p2
  exact r_icmp_eq (tgt := 1655) dL_law_1277 (by decide) (fun _ => kk S2 ok2 rs2) (fun z => absurd e.symm z)
theorem lc_34 (g : pG) {L : Nat} {xs : Nat → Int32} (hL : L ≤ 2560) {i : Nat} (hi : i + 5 ≤ L) (kk : Go g L xs 1655 i) : Go g L xs 1282 i := by
  intro S hS h
  obtain ⟨PC, m1, q1⟩ := tw_minds g hS h (xs (i + 1)) (xs (i + 2)) (xs (i + 3)) (xs (i + 4))
  obtain ⟨M, rfl⟩ := sOk_gs hS
  refine r_aload_n dL_law_1282 rfl rfl ?_
  refine r_aload_n dL_law_1283 rfl rfl ?_
  refine r_iload_n dL_law_1284 rfl rfl ?_
  refine r_iconst (v := 1) dL_law_1285 (by decide) ?_
  refine r_iaddN i 1 dL_law_1286 ?_
  refine r_sld (j := i + 1) dL_law_1287 rfl (by omega) hL ?_
  refine r_aload_n dL_law_1288 rfl rfl ?_
  refine r_iload_n dL_law_1289 rfl rfl ?_
  refine r_iconst (v := 2) dL_law_1290 (by decide) ?_
  refine r_iaddN i 2 dL_law_1291 ?_
  refine r_sld (j := i + 2) dL_law_1292 rfl (by omega) hL ?_
  refine r_aload_n dL_law_1293 rfl rfl ?_
  refine r_iload_n dL_law_1294 rfl rfl ?_
  refine r_iconst (v := 3) dL_law_1295 (by decide) ?_
  refine r_iaddN i 3 dL_law_1296 ?_
  refine r_sld (j := i + 3) dL_law_1297 rfl (by omega) hL ?_
  refine r_aload_n dL_law_1298 rfl rfl ?_
  refine r_iload_n dL_law_1299 rfl rfl ?_
  refine r_iconst (v := 4) dL_law_1300 (by decide) ?_
  refine r_iaddN i 4 dL_law_1301 ?_
  refine r_sld (j := i + 4) dL_law_1302 rfl (by omega) hL ?_
  refine r_callV_eI (ci := 11) dL_law_1303 m1 mf_X11_minds mi_X11_minds se_X11_X11_X11_minds ml_L_158 rfl rfl (Nat.le_of_ble_eq_true rfl) rfl (by decide) rfl (Nat.le_of_ble_eq_true rfl) ⟨(Nat.le_of_ble_eq_true rfl), (Nat.le_of_ble_eq_true rfl)⟩ ⟨(Nat.le_of_ble_eq_true rfl), (Nat.le_of_ble_eq_true rfl)⟩ (fun x1 S1 p1 z1 => ?_)
  obtain ⟨ok1, PR, m2, q2⟩ := q1 x1 S1 p1
  obtain ⟨M1, rfl⟩ := sOk_gs ok1
  refine r_aload_n dL_law_1306 rfl rfl ?_
  refine r_aload_n dL_law_1307 rfl rfl ?_
  refine r_iload_n dL_law_1308 rfl rfl ?_
  refine r_iconst (v := 1) dL_law_1309 (by decide) ?_
  refine r_iaddN i 1 dL_law_1310 ?_
  refine r_sld (j := i + 1) dL_law_1311 rfl (by omega) hL ?_
  refine r_aload_n dL_law_1312 rfl rfl ?_
  refine r_iload_n dL_law_1313 rfl rfl ?_
  refine r_iconst (v := 2) dL_law_1314 (by decide) ?_
  refine r_iaddN i 2 dL_law_1315 ?_
  refine r_sld (j := i + 2) dL_law_1316 rfl (by omega) hL ?_
  refine r_aload_n dL_law_1317 rfl rfl ?_
  refine r_iload_n dL_law_1318 rfl rfl ?_
  refine r_iconst (v := 3) dL_law_1319 (by decide) ?_
  refine r_iaddN i 3 dL_law_1320 ?_
  refine r_sld (j := i + 3) dL_law_1321 rfl (by omega) hL ?_
  refine r_aload_n dL_law_1322 rfl rfl ?_
  refine r_iload_n dL_law_1323 rfl rfl ?_
  refine r_iconst (v := 4) dL_law_1324 (by decide) ?_
  refine r_iaddN i 4 dL_law_1325 ?_
  refine r_sld (j := i + 4) dL_law_1326 rfl (by omega) hL ?_
  refine r_callV_eI (ci := 12) dL_law_1327 m2 mf_X12_minds mi_X12_minds se_X12_X12_X12_minds ml_L_162 rfl rfl (Nat.le_of_ble_eq_true rfl) rfl (by decide) rfl (Nat.le_of_ble_eq_true rfl) ⟨(Nat.le_of_ble_eq_true rfl), (Nat.le_of_ble_eq_true rfl)⟩ ⟨(Nat.le_of_ble_eq_true rfl), (Nat.le_of_ble_eq_true rfl)⟩ (fun y1 S2 p2 z2 => ?_)
  obtain ⟨e, ok2, rs2⟩ := q2 y1 S2 p2
  exact r_icmp_eq (tgt := 1655) dL_law_1330 (by decide) (fun _ => kk S2 ok2 rs2) (fun z => absurd e.symm z)
theorem lc_35 (g : pG) {L : Nat} {xs : Nat → Int32} (hL : L ≤ 2560) {i : Nat} (hi : i + 5 ≤ L) (kk : Go g L xs 1655 i) : Go g L xs 1335 i := by
  intro S hS h
  obtain ⟨PC, m1, q1⟩ := tw_sheet g hS h (xs (i + 1)) (xs (i + 2)) (xs (i + 3))
  obtain ⟨M, rfl⟩ := sOk_gs hS
  refine r_aload_n dL_law_1335 rfl rfl ?_
  refine r_aload_n dL_law_1336 rfl rfl ?_
  refine r_iload_n dL_law_1337 rfl rfl ?_
  refine r_iconst (v := 1) dL_law_1338 (by decide) ?_
  refine r_iaddN i 1 dL_law_1339 ?_
  refine r_sld (j := i + 1) dL_law_1340 rfl (by omega) hL ?_
  refine r_aload_n dL_law_1341 rfl rfl ?_
  refine r_iload_n dL_law_1342 rfl rfl ?_
  refine r_iconst (v := 2) dL_law_1343 (by decide) ?_
  refine r_iaddN i 2 dL_law_1344 ?_
  refine r_sld (j := i + 2) dL_law_1345 rfl (by omega) hL ?_
  refine r_aload_n dL_law_1346 rfl rfl ?_
  refine r_iload_n dL_law_1347 rfl rfl ?_
  refine r_iconst (v := 3) dL_law_1348 (by decide) ?_
  refine r_iaddN i 3 dL_law_1349 ?_
  refine r_sld (j := i + 3) dL_law_1350 rfl (by omega) hL ?_
  refine r_callV_eI (ci := 11) dL_law_1351 m1 mf_X11_sheet mi_X11_sheet se_X11_X11_X11_sheet ml_L_163 rfl rfl (Nat.le_of_ble_eq_true rfl) rfl (by decide) rfl (Nat.le_of_ble_eq_true rfl) ⟨(Nat.le_of_ble_eq_true rfl), (Nat.le_of_ble_eq_true rfl)⟩ ⟨(Nat.le_of_ble_eq_true rfl), (Nat.le_of_ble_eq_true rfl)⟩ (fun x1 S1 p1 z1 => ?_)
  obtain ⟨ok1, PR, m2, q2⟩ := q1 x1 S1 p1
  obtain ⟨M1, rfl⟩ := sOk_gs ok1
  refine r_aload_n dL_law_1354 rfl rfl ?_
  refine r_aload_n dL_law_1355 rfl rfl ?_
  refine r_iload_n dL_law_1356 rfl rfl ?_
  refine r_iconst (v := 1) dL_law_1357 (by decide) ?_
  refine r_iaddN i 1 dL_law_1358 ?_
  refine r_sld (j := i + 1) dL_law_1359 rfl (by omega) hL ?_
  refine r_aload_n dL_law_1360 rfl rfl ?_
  refine r_iload_n dL_law_1361 rfl rfl ?_
  refine r_iconst (v := 2) dL_law_1362 (by decide) ?_
  refine r_iaddN i 2 dL_law_1363 ?_
  refine r_sld (j := i + 2) dL_law_1364 rfl (by omega) hL ?_
  refine r_aload_n dL_law_1365 rfl rfl ?_
  refine r_iload_n dL_law_1366 rfl rfl ?_
  refine r_iconst (v := 3) dL_law_1367 (by decide) ?_
  refine r_iaddN i 3 dL_law_1368 ?_
  refine r_sld (j := i + 3) dL_law_1369 rfl (by omega) hL ?_
  refine r_callV_eI (ci := 12) dL_law_1370 m2 mf_X12_sheet mi_X12_sheet se_X12_X12_X12_sheet ml_L_166 rfl rfl (Nat.le_of_ble_eq_true rfl) rfl (by decide) rfl (Nat.le_of_ble_eq_true rfl) ⟨(Nat.le_of_ble_eq_true rfl), (Nat.le_of_ble_eq_true rfl)⟩ ⟨(Nat.le_of_ble_eq_true rfl), (Nat.le_of_ble_eq_true rfl)⟩ (fun y1 S2 p2 z2 => ?_)
  obtain ⟨e, ok2, rs2⟩ := q2 y1 S2 p2
  exact r_icmp_eq (tgt := 1655) dL_law_1373 (by decide) (fun _ => kk S2 ok2 rs2) (fun z => absurd e.symm z)
theorem lc_36 (g : pG) {L : Nat} {xs : Nat → Int32} (hL : L ≤ 2560) {i : Nat} (hi : i + 5 ≤ L) (kk : Go g L xs 1655 i) : Go g L xs 1378 i := by
  intro S hS h
  obtain ⟨PC, m1, q1⟩ := tw_put g hS h (xs (i + 1)) (xs (i + 2)) (xs (i + 3))
  obtain ⟨M, rfl⟩ := sOk_gs hS
  refine r_aload_n dL_law_1378 rfl rfl ?_
  refine r_aload_n dL_law_1379 rfl rfl ?_
  refine r_iload_n dL_law_1380 rfl rfl ?_
  refine r_iconst (v := 1) dL_law_1381 (by decide) ?_
  refine r_iaddN i 1 dL_law_1382 ?_
  refine r_sld (j := i + 1) dL_law_1383 rfl (by omega) hL ?_
  refine r_aload_n dL_law_1384 rfl rfl ?_
  refine r_iload_n dL_law_1385 rfl rfl ?_
  refine r_iconst (v := 2) dL_law_1386 (by decide) ?_
  refine r_iaddN i 2 dL_law_1387 ?_
  refine r_sld (j := i + 2) dL_law_1388 rfl (by omega) hL ?_
  refine r_aload_n dL_law_1389 rfl rfl ?_
  refine r_iload_n dL_law_1390 rfl rfl ?_
  refine r_iconst (v := 3) dL_law_1391 (by decide) ?_
  refine r_iaddN i 3 dL_law_1392 ?_
  refine r_sld (j := i + 3) dL_law_1393 rfl (by omega) hL ?_
  refine r_callV_eI (ci := 11) dL_law_1394 m1 mf_X11_put mi_X11_put se_X11_X11_X11_put ml_L_167 rfl rfl (Nat.le_of_ble_eq_true rfl) rfl (by decide) rfl (Nat.le_of_ble_eq_true rfl) ⟨(Nat.le_of_ble_eq_true rfl), (Nat.le_of_ble_eq_true rfl)⟩ ⟨(Nat.le_of_ble_eq_true rfl), (Nat.le_of_ble_eq_true rfl)⟩ (fun x1 S1 p1 z1 => ?_)
  obtain ⟨ok1, PR, m2, q2⟩ := q1 x1 S1 p1
  obtain ⟨M1, rfl⟩ := sOk_gs ok1
  refine r_aload_n dL_law_1397 rfl rfl ?_
  refine r_aload_n dL_law_1398 rfl rfl ?_
  refine r_iload_n dL_law_1399 rfl rfl ?_
  refine r_iconst (v := 1) dL_law_1400 (by decide) ?_
  refine r_iaddN i 1 dL_law_1401 ?_
  refine r_sld (j := i + 1) dL_law_1402 rfl (by omega) hL ?_
  refine r_aload_n dL_law_1403 rfl rfl ?_
  refine r_iload_n dL_law_1404 rfl rfl ?_
  refine r_iconst (v := 2) dL_law_1405 (by decide) ?_
  refine r_iaddN i 2 dL_law_1406 ?_
  refine r_sld (j := i + 2) dL_law_1407 rfl (by omega) hL ?_
  refine r_aload_n dL_law_1408 rfl rfl ?_
  refine r_iload_n dL_law_1409 rfl rfl ?_
  refine r_iconst (v := 3) dL_law_1410 (by decide) ?_
  refine r_iaddN i 3 dL_law_1411 ?_
  refine r_sld (j := i + 3) dL_law_1412 rfl (by omega) hL ?_
  refine r_callV_eI (ci := 12) dL_law_1413 m2 mf_X12_put mi_X12_put se_X12_X12_X12_put ml_L_170 rfl rfl (Nat.le_of_ble_eq_true rfl) rfl (by decide) rfl (Nat.le_of_ble_eq_true rfl) ⟨(Nat.le_of_ble_eq_true rfl), (Nat.le_of_ble_eq_true rfl)⟩ ⟨(Nat.le_of_ble_eq_true rfl), (Nat.le_of_ble_eq_true rfl)⟩ (fun y1 S2 p2 z2 => ?_)
  obtain ⟨e, ok2, rs2⟩ := q2 y1 S2 p2
  exact r_icmp_eq (tgt := 1655) dL_law_1416 (by decide) (fun _ => kk S2 ok2 rs2) (fun z => absurd e.symm z)
theorem lc_37 (g : pG) {L : Nat} {xs : Nat → Int32} (hL : L ≤ 2560) {i : Nat} (hi : i + 5 ≤ L) (kk : Go g L xs 1655 i) : Go g L xs 1421 i := by
  intro S hS h
  obtain ⟨PC, m1, q1⟩ := tw_item g hS h (xs (i + 1)) (xs (i + 2)) (xs (i + 3))
  obtain ⟨M, rfl⟩ := sOk_gs hS
  refine r_aload_n dL_law_1421 rfl rfl ?_
  refine r_aload_n dL_law_1422 rfl rfl ?_
  refine r_iload_n dL_law_1423 rfl rfl ?_
  refine r_iconst (v := 1) dL_law_1424 (by decide) ?_
  refine r_iaddN i 1 dL_law_1425 ?_
  refine r_sld (j := i + 1) dL_law_1426 rfl (by omega) hL ?_
  refine r_aload_n dL_law_1427 rfl rfl ?_
  refine r_iload_n dL_law_1428 rfl rfl ?_
  refine r_iconst (v := 2) dL_law_1429 (by decide) ?_
  refine r_iaddN i 2 dL_law_1430 ?_
  refine r_sld (j := i + 2) dL_law_1431 rfl (by omega) hL ?_
  refine r_aload_n dL_law_1432 rfl rfl ?_
  refine r_iload_n dL_law_1433 rfl rfl ?_
  refine r_iconst (v := 3) dL_law_1434 (by decide) ?_
  refine r_iaddN i 3 dL_law_1435 ?_
  refine r_sld (j := i + 3) dL_law_1436 rfl (by omega) hL ?_
  refine r_callV_eI (ci := 11) dL_law_1437 m1 mf_X11_item mi_X11_item se_X11_X11_X11_item ml_L_171 rfl rfl (Nat.le_of_ble_eq_true rfl) rfl (by decide) rfl (Nat.le_of_ble_eq_true rfl) ⟨(Nat.le_of_ble_eq_true rfl), (Nat.le_of_ble_eq_true rfl)⟩ ⟨(Nat.le_of_ble_eq_true rfl), (Nat.le_of_ble_eq_true rfl)⟩ (fun x1 S1 p1 z1 => ?_)
  obtain ⟨ok1, PR, m2, q2⟩ := q1 x1 S1 p1
  obtain ⟨M1, rfl⟩ := sOk_gs ok1
  refine r_aload_n dL_law_1440 rfl rfl ?_
  refine r_aload_n dL_law_1441 rfl rfl ?_
  refine r_iload_n dL_law_1442 rfl rfl ?_
  refine r_iconst (v := 1) dL_law_1443 (by decide) ?_
  refine r_iaddN i 1 dL_law_1444 ?_
  refine r_sld (j := i + 1) dL_law_1445 rfl (by omega) hL ?_
  refine r_aload_n dL_law_1446 rfl rfl ?_
  refine r_iload_n dL_law_1447 rfl rfl ?_
  refine r_iconst (v := 2) dL_law_1448 (by decide) ?_
  refine r_iaddN i 2 dL_law_1449 ?_
  refine r_sld (j := i + 2) dL_law_1450 rfl (by omega) hL ?_
  refine r_aload_n dL_law_1451 rfl rfl ?_
  refine r_iload_n dL_law_1452 rfl rfl ?_
  refine r_iconst (v := 3) dL_law_1453 (by decide) ?_
  refine r_iaddN i 3 dL_law_1454 ?_
  refine r_sld (j := i + 3) dL_law_1455 rfl (by omega) hL ?_
  refine r_callV_eI (ci := 12) dL_law_1456 m2 mf_X12_item mi_X12_item se_X12_X12_X12_item ml_L_174 rfl rfl (Nat.le_of_ble_eq_true rfl) rfl (by decide) rfl (Nat.le_of_ble_eq_true rfl) ⟨(Nat.le_of_ble_eq_true rfl), (Nat.le_of_ble_eq_true rfl)⟩ ⟨(Nat.le_of_ble_eq_true rfl), (Nat.le_of_ble_eq_true rfl)⟩ (fun y1 S2 p2 z2 => ?_)
  obtain ⟨e, ok2, rs2⟩ := q2 y1 S2 p2
  exact r_icmp_eq (tgt := 1655) dL_law_1459 (by decide) (fun _ => kk S2 ok2 rs2) (fun z => absurd e.symm z)
theorem lc_38 (g : pG) {L : Nat} {xs : Nat → Int32} (hL : L ≤ 2560) {i : Nat} (hi : i + 5 ≤ L) (kk : Go g L xs 1655 i) : Go g L xs 1464 i := by
  intro S hS h
  obtain ⟨PC, m1, q1⟩ := tw_shelf g hS h (xs (i + 1)) (xs (i + 2)) (xs (i + 3))
  obtain ⟨M, rfl⟩ := sOk_gs hS
  refine r_aload_n dL_law_1464 rfl rfl ?_
  refine r_aload_n dL_law_1465 rfl rfl ?_
  refine r_iload_n dL_law_1466 rfl rfl ?_
  refine r_iconst (v := 1) dL_law_1467 (by decide) ?_
  refine r_iaddN i 1 dL_law_1468 ?_
  refine r_sld (j := i + 1) dL_law_1469 rfl (by omega) hL ?_
  refine r_aload_n dL_law_1470 rfl rfl ?_
  refine r_iload_n dL_law_1471 rfl rfl ?_
  refine r_iconst (v := 2) dL_law_1472 (by decide) ?_
  refine r_iaddN i 2 dL_law_1473 ?_
  refine r_sld (j := i + 2) dL_law_1474 rfl (by omega) hL ?_
  refine r_aload_n dL_law_1475 rfl rfl ?_
  refine r_iload_n dL_law_1476 rfl rfl ?_
  refine r_iconst (v := 3) dL_law_1477 (by decide) ?_
  refine r_iaddN i 3 dL_law_1478 ?_
  refine r_sld (j := i + 3) dL_law_1479 rfl (by omega) hL ?_
  refine r_callV_eI (ci := 11) dL_law_1480 m1 mf_X11_shelf mi_X11_shelf se_X11_X11_X11_shelf ml_L_175 rfl rfl (Nat.le_of_ble_eq_true rfl) rfl (by decide) rfl (Nat.le_of_ble_eq_true rfl) ⟨(Nat.le_of_ble_eq_true rfl), (Nat.le_of_ble_eq_true rfl)⟩ ⟨(Nat.le_of_ble_eq_true rfl), (Nat.le_of_ble_eq_true rfl)⟩ (fun x1 S1 p1 z1 => ?_)
  obtain ⟨ok1, PR, m2, q2⟩ := q1 x1 S1 p1
  obtain ⟨M1, rfl⟩ := sOk_gs ok1
  refine r_aload_n dL_law_1483 rfl rfl ?_
  refine r_aload_n dL_law_1484 rfl rfl ?_
  refine r_iload_n dL_law_1485 rfl rfl ?_
  refine r_iconst (v := 1) dL_law_1486 (by decide) ?_
  refine r_iaddN i 1 dL_law_1487 ?_
  refine r_sld (j := i + 1) dL_law_1488 rfl (by omega) hL ?_
  refine r_aload_n dL_law_1489 rfl rfl ?_
  refine r_iload_n dL_law_1490 rfl rfl ?_
  refine r_iconst (v := 2) dL_law_1491 (by decide) ?_
  refine r_iaddN i 2 dL_law_1492 ?_
  refine r_sld (j := i + 2) dL_law_1493 rfl (by omega) hL ?_
  refine r_aload_n dL_law_1494 rfl rfl ?_
  refine r_iload_n dL_law_1495 rfl rfl ?_
  refine r_iconst (v := 3) dL_law_1496 (by decide) ?_
  refine r_iaddN i 3 dL_law_1497 ?_
  refine r_sld (j := i + 3) dL_law_1498 rfl (by omega) hL ?_
  refine r_callV_eI (ci := 12) dL_law_1499 m2 mf_X12_shelf mi_X12_shelf se_X12_X12_X12_shelf ml_L_178 rfl rfl (Nat.le_of_ble_eq_true rfl) rfl (by decide) rfl (Nat.le_of_ble_eq_true rfl) ⟨(Nat.le_of_ble_eq_true rfl), (Nat.le_of_ble_eq_true rfl)⟩ ⟨(Nat.le_of_ble_eq_true rfl), (Nat.le_of_ble_eq_true rfl)⟩ (fun y1 S2 p2 z2 => ?_)
  obtain ⟨e, ok2, rs2⟩ := q2 y1 S2 p2
  exact r_icmp_eq (tgt := 1655) dL_law_1502 (by decide) (fun _ => kk S2 ok2 rs2) (fun z => absurd e.symm z)
theorem lc_39 (g : pG) {L : Nat} {xs : Nat → Int32} (hL : L ≤ 2560) {i : Nat} (hi : i + 5 ≤ L) (kk : Go g L xs 1655 i) : Go g L xs 1507 i := by
  intro S hS h
  obtain ⟨PC, m1, q1⟩ := tw_taken g hS h (xs (i + 1)) (xs (i + 2))
  obtain ⟨M, rfl⟩ := sOk_gs hS
  refine r_aload_n dL_law_1507 rfl rfl ?_
  refine r_aload_n dL_law_1508 rfl rfl ?_
  refine r_iload_n dL_law_1509 rfl rfl ?_
  refine r_iconst (v := 1) dL_law_1510 (by decide) ?_
  refine r_iaddN i 1 dL_law_1511 ?_
  refine r_sld (j := i + 1) dL_law_1512 rfl (by omega) hL ?_
  refine r_aload_n dL_law_1513 rfl rfl ?_
  refine r_iload_n dL_law_1514 rfl rfl ?_
  refine r_iconst (v := 2) dL_law_1515 (by decide) ?_
  refine r_iaddN i 2 dL_law_1516 ?_
  refine r_sld (j := i + 2) dL_law_1517 rfl (by omega) hL ?_
  refine r_callV_eI (ci := 11) dL_law_1518 m1 mf_X11_taken mi_X11_taken se_X11_X11_X11_taken ml_L_179 rfl rfl (Nat.le_of_ble_eq_true rfl) rfl (by decide) rfl (Nat.le_of_ble_eq_true rfl) ⟨(Nat.le_of_ble_eq_true rfl), (Nat.le_of_ble_eq_true rfl)⟩ ⟨(Nat.le_of_ble_eq_true rfl), (Nat.le_of_ble_eq_true rfl)⟩ (fun x1 S1 p1 z1 => ?_)
  obtain ⟨ok1, PR, m2, q2⟩ := q1 x1 S1 p1
  obtain ⟨M1, rfl⟩ := sOk_gs ok1
  refine r_aload_n dL_law_1521 rfl rfl ?_
  refine r_aload_n dL_law_1522 rfl rfl ?_
  refine r_iload_n dL_law_1523 rfl rfl ?_
  refine r_iconst (v := 1) dL_law_1524 (by decide) ?_
  refine r_iaddN i 1 dL_law_1525 ?_
  refine r_sld (j := i + 1) dL_law_1526 rfl (by omega) hL ?_
  refine r_aload_n dL_law_1527 rfl rfl ?_
  refine r_iload_n dL_law_1528 rfl rfl ?_
  refine r_iconst (v := 2) dL_law_1529 (by decide) ?_
  refine r_iaddN i 2 dL_law_1530 ?_
  refine r_sld (j := i + 2) dL_law_1531 rfl (by omega) hL ?_
  refine r_callV_eI (ci := 12) dL_law_1532 m2 mf_X12_taken mi_X12_taken se_X12_X12_X12_taken ml_L_182 rfl rfl (Nat.le_of_ble_eq_true rfl) rfl (by decide) rfl (Nat.le_of_ble_eq_true rfl) ⟨(Nat.le_of_ble_eq_true rfl), (Nat.le_of_ble_eq_true rfl)⟩ ⟨(Nat.le_of_ble_eq_true rfl), (Nat.le_of_ble_eq_true rfl)⟩ (fun y1 S2 p2 z2 => ?_)
  obtain ⟨e, ok2, rs2⟩ := q2 y1 S2 p2
  exact r_icmp_eq (tgt := 1655) dL_law_1535 (by decide) (fun _ => kk S2 ok2 rs2) (fun z => absurd e.symm z)
theorem lc_40 (g : pG) {L : Nat} {xs : Nat → Int32} (hL : L ≤ 2560) {i : Nat} (hi : i + 5 ≤ L) (kk : Go g L xs 1655 i) : Go g L xs 1540 i := by
  intro S hS h
  obtain ⟨PC, m1, q1⟩ := tw_act g hS h (xs (i + 1)) (xs (i + 2)) (xs (i + 3))
  obtain ⟨M, rfl⟩ := sOk_gs hS
  refine r_aload_n dL_law_1540 rfl rfl ?_
  refine r_aload_n dL_law_1541 rfl rfl ?_
  refine r_iload_n dL_law_1542 rfl rfl ?_
  refine r_iconst (v := 1) dL_law_1543 (by decide) ?_
  refine r_iaddN i 1 dL_law_1544 ?_
  refine r_sld (j := i + 1) dL_law_1545 rfl (by omega) hL ?_
  refine r_aload_n dL_law_1546 rfl rfl ?_
  refine r_iload_n dL_law_1547 rfl rfl ?_
  refine r_iconst (v := 2) dL_law_1548 (by decide) ?_
  refine r_iaddN i 2 dL_law_1549 ?_
  refine r_sld (j := i + 2) dL_law_1550 rfl (by omega) hL ?_
  refine r_aload_n dL_law_1551 rfl rfl ?_
  refine r_iload_n dL_law_1552 rfl rfl ?_
  refine r_iconst (v := 3) dL_law_1553 (by decide) ?_
  refine r_iaddN i 3 dL_law_1554 ?_
  refine r_sld (j := i + 3) dL_law_1555 rfl (by omega) hL ?_
  refine r_callV_eI (ci := 11) dL_law_1556 m1 mf_X11_act mi_X11_act se_X11_X11_X11_act ml_L_183 rfl rfl (Nat.le_of_ble_eq_true rfl) rfl (by decide) rfl (Nat.le_of_ble_eq_true rfl) ⟨(Nat.le_of_ble_eq_true rfl), (Nat.le_of_ble_eq_true rfl)⟩ ⟨(Nat.le_of_ble_eq_true rfl), (Nat.le_of_ble_eq_true rfl)⟩ (fun x1 S1 p1 z1 => ?_)
  obtain ⟨ok1, PR, m2, q2⟩ := q1 x1 S1 p1
  obtain ⟨M1, rfl⟩ := sOk_gs ok1
  refine r_aload_n dL_law_1559 rfl rfl ?_
  refine r_aload_n dL_law_1560 rfl rfl ?_
  refine r_iload_n dL_law_1561 rfl rfl ?_
  refine r_iconst (v := 1) dL_law_1562 (by decide) ?_
  refine r_iaddN i 1 dL_law_1563 ?_
  refine r_sld (j := i + 1) dL_law_1564 rfl (by omega) hL ?_
  refine r_aload_n dL_law_1565 rfl rfl ?_
  refine r_iload_n dL_law_1566 rfl rfl ?_
  refine r_iconst (v := 2) dL_law_1567 (by decide) ?_
  refine r_iaddN i 2 dL_law_1568 ?_
  refine r_sld (j := i + 2) dL_law_1569 rfl (by omega) hL ?_
  refine r_aload_n dL_law_1570 rfl rfl ?_
  refine r_iload_n dL_law_1571 rfl rfl ?_
  refine r_iconst (v := 3) dL_law_1572 (by decide) ?_
  refine r_iaddN i 3 dL_law_1573 ?_
  refine r_sld (j := i + 3) dL_law_1574 rfl (by omega) hL ?_
  refine r_callV_eI (ci := 12) dL_law_1575 m2 mf_X12_act mi_X12_act se_X12_X12_X12_act ml_L_186 rfl rfl (Nat.le_of_ble_eq_true rfl) rfl (by decide) rfl (Nat.le_of_ble_eq_true rfl) ⟨(Nat.le_of_ble_eq_true rfl), (Nat.le_of_ble_eq_true rfl)⟩ ⟨(Nat.le_of_ble_eq_true rfl), (Nat.le_of_ble_eq_true rfl)⟩ (fun y1 S2 p2 z2 => ?_)
  obtain ⟨e, ok2, rs2⟩ := q2 y1 S2 p2
  exact r_icmp_eq (tgt := 1655) dL_law_1578 (by decide) (fun _ => kk S2 ok2 rs2) (fun z => absurd e.symm z)
theorem lc_41 (g : pG) {L : Nat} {xs : Nat → Int32} (hL : L ≤ 2560) {i : Nat} (hi : i + 5 ≤ L) (kk : Go g L xs 1655 i) : Go g L xs 1583 i := by
  intro S hS h
  obtain ⟨PC, m1, q1⟩ := tw_trace g hS h (xs (i + 1))
  obtain ⟨M, rfl⟩ := sOk_gs hS
  refine r_aload_n dL_law_1583 rfl rfl ?_
  refine r_aload_n dL_law_1584 rfl rfl ?_
  refine r_iload_n dL_law_1585 rfl rfl ?_
  refine r_iconst (v := 1) dL_law_1586 (by decide) ?_
  refine r_iaddN i 1 dL_law_1587 ?_
  refine r_sld (j := i + 1) dL_law_1588 rfl (by omega) hL ?_
  refine r_callV_eI (ci := 11) dL_law_1589 m1 mf_X11_trace mi_X11_trace se_X11_X11_X11_trace ml_L_187 rfl rfl (Nat.le_of_ble_eq_true rfl) rfl (by decide) rfl (Nat.le_of_ble_eq_true rfl) ⟨(Nat.le_of_ble_eq_true rfl), (Nat.le_of_ble_eq_true rfl)⟩ ⟨(Nat.le_of_ble_eq_true rfl), (Nat.le_of_ble_eq_true rfl)⟩ (fun x1 S1 p1 z1 => ?_)
  obtain ⟨ok1, PR, m2, q2⟩ := q1 x1 S1 p1
  obtain ⟨M1, rfl⟩ := sOk_gs ok1
  refine r_aload_n dL_law_1592 rfl rfl ?_
  refine r_aload_n dL_law_1593 rfl rfl ?_
  refine r_iload_n dL_law_1594 rfl rfl ?_
  refine r_iconst (v := 1) dL_law_1595 (by decide) ?_
  refine r_iaddN i 1 dL_law_1596 ?_
  refine r_sld (j := i + 1) dL_law_1597 rfl (by omega) hL ?_
  refine r_callV_eI (ci := 12) dL_law_1598 m2 mf_X12_trace mi_X12_trace se_X12_X12_X12_trace ml_L_190 rfl rfl (Nat.le_of_ble_eq_true rfl) rfl (by decide) rfl (Nat.le_of_ble_eq_true rfl) ⟨(Nat.le_of_ble_eq_true rfl), (Nat.le_of_ble_eq_true rfl)⟩ ⟨(Nat.le_of_ble_eq_true rfl), (Nat.le_of_ble_eq_true rfl)⟩ (fun y1 S2 p2 z2 => ?_)
  obtain ⟨e, ok2, rs2⟩ := q2 y1 S2 p2
  exact r_icmp_eq (tgt := 1655) dL_law_1601 (by decide) (fun _ => kk S2 ok2 rs2) (fun z => absurd e.symm z)
theorem lc_42 (g : pG) {L : Nat} {xs : Nat → Int32} (hL : L ≤ 2560) {i : Nat} (hi : i + 5 ≤ L) (kk : Go g L xs 1655 i) : Go g L xs 1606 i := by
  intro S hS h
  obtain ⟨PC, m1, q1⟩ := tw_many g hS h (xs (i + 1))
  obtain ⟨M, rfl⟩ := sOk_gs hS
  refine r_aload_n dL_law_1606 rfl rfl ?_
  refine r_aload_n dL_law_1607 rfl rfl ?_
  refine r_iload_n dL_law_1608 rfl rfl ?_
  refine r_iconst (v := 1) dL_law_1609 (by decide) ?_
  refine r_iaddN i 1 dL_law_1610 ?_
  refine r_sld (j := i + 1) dL_law_1611 rfl (by omega) hL ?_
  refine r_callV_eI (ci := 11) dL_law_1612 m1 mf_X11_many mi_X11_many se_X11_X11_X11_many ml_L_191 rfl rfl (Nat.le_of_ble_eq_true rfl) rfl (by decide) rfl (Nat.le_of_ble_eq_true rfl) ⟨(Nat.le_of_ble_eq_true rfl), (Nat.le_of_ble_eq_true rfl)⟩ ⟨(Nat.le_of_ble_eq_true rfl), (Nat.le_of_ble_eq_true rfl)⟩ (fun x1 S1 p1 z1 => ?_)
  obtain ⟨ok1, PR, m2, q2⟩ := q1 x1 S1 p1
  obtain ⟨M1, rfl⟩ := sOk_gs ok1
  refine r_aload_n dL_law_1615 rfl rfl ?_
  refine r_aload_n dL_law_1616 rfl rfl ?_
  refine r_iload_n dL_law_1617 rfl rfl ?_
  refine r_iconst (v := 1) dL_law_1618 (by decide) ?_
  refine r_iaddN i 1 dL_law_1619 ?_
  refine r_sld (j := i + 1) dL_law_1620 rfl (by omega) hL ?_
  refine r_callV_eI (ci := 12) dL_law_1621 m2 mf_X12_many mi_X12_many se_X12_X12_X12_many ml_L_194 rfl rfl (Nat.le_of_ble_eq_true rfl) rfl (by decide) rfl (Nat.le_of_ble_eq_true rfl) ⟨(Nat.le_of_ble_eq_true rfl), (Nat.le_of_ble_eq_true rfl)⟩ ⟨(Nat.le_of_ble_eq_true rfl), (Nat.le_of_ble_eq_true rfl)⟩ (fun y1 S2 p2 z2 => ?_)
  obtain ⟨e, ok2, rs2⟩ := q2 y1 S2 p2
  exact r_icmp_eq (tgt := 1655) dL_law_1624 (by decide) (fun _ => kk S2 ok2 rs2) (fun z => absurd e.symm z)
theorem lc_43 (g : pG) {L : Nat} {xs : Nat → Int32} (hL : L ≤ 2560) {i : Nat} (hi : i + 5 ≤ L) (kk : Go g L xs 1655 i) : Go g L xs 1629 i := by
  intro S hS h
  obtain ⟨PC, m1, q1⟩ := tw_keep g hS h
  obtain ⟨M, rfl⟩ := sOk_gs hS
  refine r_aload_n dL_law_1629 rfl rfl ?_
  refine r_callV_eI (ci := 11) dL_law_1630 m1 mf_X11_keep mi_X11_keep se_X11_X11_X11_keep ml_L_195 rfl rfl (Nat.le_of_ble_eq_true rfl) rfl (by decide) rfl (Nat.le_of_ble_eq_true rfl) ⟨(Nat.le_of_ble_eq_true rfl), (Nat.le_of_ble_eq_true rfl)⟩ ⟨(Nat.le_of_ble_eq_true rfl), (Nat.le_of_ble_eq_true rfl)⟩ (fun x1 S1 p1 z1 => ?_)
  obtain ⟨ok1, PR, m2, q2⟩ := q1 x1 S1 p1
  obtain ⟨M1, rfl⟩ := sOk_gs ok1
  refine r_aload_n dL_law_1633 rfl rfl ?_
  refine r_callV_eI (ci := 12) dL_law_1634 m2 mf_X12_keep mi_X12_keep se_X12_X12_X12_keep ml_L_198 rfl rfl (Nat.le_of_ble_eq_true rfl) rfl (by decide) rfl (Nat.le_of_ble_eq_true rfl) ⟨(Nat.le_of_ble_eq_true rfl), (Nat.le_of_ble_eq_true rfl)⟩ ⟨(Nat.le_of_ble_eq_true rfl), (Nat.le_of_ble_eq_true rfl)⟩ (fun y1 S2 p2 z2 => ?_)
  obtain ⟨e, ok2, rs2⟩ := q2 y1 S2 p2
  exact r_icmp_eq (tgt := 1655) dL_law_1637 (by decide) (fun _ => kk S2 ok2 rs2) (fun z => absurd e.symm z)
theorem lc_44 (g : pG) {L : Nat} {xs : Nat → Int32} (hL : L ≤ 2560) {i : Nat} (hi : i + 5 ≤ L) (kk : Go g L xs 1655 i) : Go g L xs 1642 i := by
  intro S hS h
  obtain ⟨PC, m1, q1⟩ := tw_again g hS h
  obtain ⟨M, rfl⟩ := sOk_gs hS
  refine r_aload_n dL_law_1642 rfl rfl ?_
  refine r_callV_eI (ci := 11) dL_law_1643 m1 mf_X11_again mi_X11_again se_X11_X11_X11_again ml_L_199 rfl rfl (Nat.le_of_ble_eq_true rfl) rfl (by decide) rfl (Nat.le_of_ble_eq_true rfl) ⟨(Nat.le_of_ble_eq_true rfl), (Nat.le_of_ble_eq_true rfl)⟩ ⟨(Nat.le_of_ble_eq_true rfl), (Nat.le_of_ble_eq_true rfl)⟩ (fun x1 S1 p1 z1 => ?_)
  obtain ⟨ok1, PR, m2, q2⟩ := q1 x1 S1 p1
  obtain ⟨M1, rfl⟩ := sOk_gs ok1
  refine r_aload_n dL_law_1646 rfl rfl ?_
  refine r_callV_eI (ci := 12) dL_law_1647 m2 mf_X12_again mi_X12_again se_X12_X12_X12_again ml_L_202 rfl rfl (Nat.le_of_ble_eq_true rfl) rfl (by decide) rfl (Nat.le_of_ble_eq_true rfl) ⟨(Nat.le_of_ble_eq_true rfl), (Nat.le_of_ble_eq_true rfl)⟩ ⟨(Nat.le_of_ble_eq_true rfl), (Nat.le_of_ble_eq_true rfl)⟩ (fun y1 S2 p2 z2 => ?_)
  obtain ⟨e, ok2, rs2⟩ := q2 y1 S2 p2
  exact r_icmp_eq (tgt := 1655) dL_law_1650 (by decide) (fun _ => kk S2 ok2 rs2) (fun z => absurd e.symm z)
