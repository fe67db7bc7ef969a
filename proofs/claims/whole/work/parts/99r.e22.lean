/-! ===== the start: constants ===== -/
theorem st_arr {args : Array Value} {s : State} (hts : ∀ w ∈ lw_tbl, w.before args s = true) (hg : ∀ c ∈ (flatC (Jvm.Cond.and given_1 narrow_1)), c.before args s = true) {A : Nat → Prop} (hA : ∀ a : Nat, a < s.heap.size → ¬ A a) : ∃ aS : Nat → Nat, ∀ k, k < 3 → va_Z "TonightCovers" (kN k) "[I" (.ref (aS k)) A s s.heap ∧ va_T .int (aS k) (kL k).length (fun j => .int (kF k j)) A s s.heap := by
  have hl : ∀ k, k < 3 → (Cond.laysStatic "TonightCovers" (kN k) "[I").before args s = true := fun k hk => by
    rcases (by omega : k = 0 ∨ k = 1 ∨ k = 2) with rfl | rfl | rfl
    · exact hts _ (tb_m1 (List.mem_of_getElem? (i := 40) rfl))
    · exact hts _ (tb_m2 (List.mem_of_getElem? (i := 212) rfl))
    · exact hts _ (tb_m4 (List.mem_of_getElem? (i := 114) rfl))
  have h0 : ∀ k : Nat, ∃ t : Nat, k < 3 → va_Z "TonightCovers" (kN k) "[I" (.ref t) A s s.heap ∧ va_T .int t (kL k).length (fun j => .int (kF k j)) A s s.heap := by
    intro k
    by_cases hk : k < 3
    · have hn : (kL k).length < 2 ^ 31 := by
        rcases (by omega : k = 0 ∨ k = 1 ∨ k = 2) with rfl | rfl | rfl <;> decide
      obtain ⟨t, ht, hT⟩ := va_Tof (tm := tmS k) (ty := .int) (N := (kL k).length) (f := fun j => .int (kF k j)) (A := A) hn (hg _ (g_arr k hk)) (va_eqt (hg _ (g_len k hk))) (fun j hj => va_eqt (hg _ (g_el k hk j hj))) hA
      exact ⟨t, fun _ => ⟨va_Zof (hl k hk) (hts _ (tb_m1 (List.mem_of_getElem? (i := 1) rfl))) ht hA, hT⟩⟩
    · exact ⟨0, fun z => absurd z hk⟩
  exact Classical.axiomOfChoice h0
theorem st_str {args : Array Value} {s : State} (hts : ∀ w ∈ lw_tbl, w.before args s = true) (hg : ∀ c ∈ (flatC (Jvm.Cond.and given_1 narrow_1)), c.before args s = true) {A : Nat → Prop} (hA : ∀ a : Nat, a < s.heap.size → ¬ A a) : ∃ adK adV : Nat → Nat, vk_S 14 sLn sBy adK adV A s s.heap ∧ ∀ k, k < 14 → vk_R "TonightCovers$Tape" (100 + 2 * k) (sTx.getD k "") (adK k) s := by
  obtain ⟨adK, adV, h1, h2⟩ := vk_Sof (N := 14) (tm := tmT) (len := sLn) (byt := sBy) (A := A) (by decide) (fun i hi => hg _ (g_ex i hi)) (fun i hi => hg _ (g_co i hi)) (fun i hi => hg _ (g_ar i hi)) (fun i hi => hg _ (g_le i hi)) (fun i hi j hj => hg _ (g_by i hi j hj)) (fun i j hi hj hn => (g_ne i j hi hj hn).imp (hg _) (hg _)) hA
  exact ⟨adK, adV, h1, fun k hk => vk_R.of (hts _ (tb_m2 (List.mem_of_getElem? (w_sr k hk)))) (h2 k hk)⟩
theorem st_cs {args : Array Value} {s : State} (hts : ∀ w ∈ lw_tbl, w.before args s = true) (hg : ∀ c ∈ (flatC (Jvm.Cond.and given_1 narrow_1)), c.before args s = true) {A : Nat → Prop} (hA : ∀ a : Nat, a < s.heap.size → ¬ A a) : va_Z "java/lang/String" "COMPACT_STRINGS" "Z" (.int 1) A s s.heap :=
  va_Zof (hts _ (tb_m2 (List.mem_of_getElem? (i := 142) rfl))) (hts _ (tb_m1 (List.mem_of_getElem? (i := 15) rfl))) (va_eqi (hg _ g_cs)) hA
theorem st_pc {args : Array Value} {s : State} (hts : ∀ w ∈ lw_tbl, w.before args s = true) (hg : ∀ c ∈ (flatC (Jvm.Cond.and given_1 narrow_1)), c.before args s = true) {A : Nat → Prop} (hA : ∀ a : Nat, a < s.heap.size → ¬ A a) : va_Zq "jdk/internal/util/Preconditions" "SIOOBE_FORMATTER" "Ljava/util/function/BiFunction;" A s s.heap :=
  va_Zqof (hts _ (tb_m2 (List.mem_of_getElem? (i := 161) rfl))) (hts _ (tb_m1 (List.mem_of_getElem? (i := 17) rfl))) (hg _ g_pc) hA
theorem st_mn {args : Array Value} {s : State} (hts : ∀ w ∈ lw_tbl, w.before args s = true) : ∀ q ∈ xMN, va_Nw (.methodLinkNest q.1 q.2.1 q.2.2 "TonightCovers") s :=
  List.forall_mem_cons.mpr ⟨va_Nw.of rfl (hts _ (tb_m1 (List.mem_of_getElem? (i := 119) rfl))), List.forall_mem_cons.mpr ⟨va_Nw.of rfl (hts _ (tb_m1 (List.mem_of_getElem? (i := 141) rfl))), List.forall_mem_cons.mpr ⟨va_Nw.of rfl (hts _ (tb_m1 (List.mem_of_getElem? (i := 161) rfl))), List.forall_mem_cons.mpr ⟨va_Nw.of rfl (hts _ (tb_m2 (List.mem_of_getElem? (i := 207) rfl))), fun _ h => absurd h List.not_mem_nil⟩⟩⟩⟩
theorem st_fn {args : Array Value} {s : State} (hts : ∀ w ∈ lw_tbl, w.before args s = true) : ∀ q ∈ xFN, va_Nw (.fieldLinkNest q.1 q.2.1 "TonightCovers" q.2.2 "[I" "TonightCovers") s :=
  List.forall_mem_cons.mpr ⟨va_Nw.of rfl (hts _ (tb_m1 (List.mem_of_getElem? (i := 39) rfl))), List.forall_mem_cons.mpr ⟨va_Nw.of rfl (hts _ (tb_m2 (List.mem_of_getElem? (i := 211) rfl))), fun _ h => absurd h List.not_mem_nil⟩⟩
theorem st_ca {args : Array Value} {s : State} (hts : ∀ w ∈ lw_tbl, w.before args s = true) : ∀ C ∈ xCS, va_Nw (.castable C "TonightCovers$Player") s :=
  List.forall_mem_cons.mpr ⟨va_Nw.of rfl (hts _ (tb_m7 (List.mem_of_getElem? (i := 12) rfl))), List.forall_mem_cons.mpr ⟨va_Nw.of rfl (hts _ (tb_m7 (List.mem_of_getElem? (i := 13) rfl))), List.forall_mem_cons.mpr ⟨va_Nw.of rfl (hts _ (tb_m7 (List.mem_of_getElem? (i := 14) rfl))), List.forall_mem_cons.mpr ⟨va_Nw.of rfl (hts _ (tb_m7 (List.mem_of_getElem? (i := 15) rfl))), List.forall_mem_cons.mpr ⟨va_Nw.of rfl (hts _ (tb_m7 (List.mem_of_getElem? (i := 16) rfl))), fun _ h => absurd h List.not_mem_nil⟩⟩⟩⟩⟩
/-- where all lies: our cells from the heap's end on, the strings, their bytes, the static rows, the script -/
def adF (n b : Nat) (aS adK adV : Nat → Nat) (i : Nat) : Nat := if i < 1000 then n + i else if i < 1100 then adK (i - 1000) else if i < 2000 then adV (i - 1100) else if i < 3000 then aS (i - 2000) else b
theorem adF_lo {n b : Nat} {aS adK adV : Nat → Nat} {i : Nat} (h : i < 1000) : adF n b aS adK adV i = n + i := if_pos h
theorem adF_K {n b : Nat} {aS adK adV : Nat → Nat} {i : Nat} (h : i < 100) : adF n b aS adK adV (1000 + i) = adK i := by
  unfold adF
  rw [if_neg (by omega), if_pos (by omega)]
  exact congrArg adK (by omega)
theorem adF_V {n b : Nat} {aS adK adV : Nat → Nat} {i : Nat} (h : i < 100) : adF n b aS adK adV (1100 + i) = adV i := by
  unfold adF
  rw [if_neg (by omega), if_neg (by omega), if_pos (by omega)]
  exact congrArg adV (by omega)
theorem adF_S {n b : Nat} {aS adK adV : Nat → Nat} {i : Nat} (h : i < 100) : adF n b aS adK adV (2000 + i) = aS i := by
  unfold adF
  rw [if_neg (by omega), if_neg (by omega), if_neg (by omega), if_pos (by omega)]
  exact congrArg aS (by omega)
theorem adF_b {n b : Nat} {aS adK adV : Nat → Nat} : adF n b aS adK adV 3000 = b := by
  unfold adF
  rw [if_neg (by omega), if_neg (by omega), if_neg (by omega), if_neg (by omega)]
theorem vk_S.cg {N : Nat} {len : List Nat} {byt : List (List Int32)} {adK adV bK bV : Nat → Nat} {A : Nat → Prop} {U : State} {H : Heap} (h : vk_S N len byt adK adV A U H) (e1 : ∀ i, i < N → bK i = adK i) (e2 : ∀ i, i < N → bV i = adV i) : vk_S N len byt bK bV A U H :=
  ⟨fun i hi => by rw [e1 i hi, e2 i hi]; exact h.1 i hi, fun i j hi hj e => h.2 i j hi hj (by rw [← e1 i hi, ← e1 j hj]; exact e)⟩
theorem start_KC {args : Array Value} {s : State} (hts : ∀ w ∈ lw_tbl, w.before args s = true) (hg : ∀ c ∈ (flatC (Jvm.Cond.and given_1 narrow_1)), c.before args s = true) (l : Launch) (D : va_G) (cA : Nat → ClassId) (b : Nat) : ∃ aS adK adV : Nat → Nat, KC (l, D, cA, adF s.heap.size b aS adK adV) s := by
  have hA : ∀ a : Nat, a < s.heap.size → ¬ (fun q : Nat => s.heap.size ≤ q) a := fun a h => Nat.not_le.mpr h
  obtain ⟨aS, hS⟩ := st_arr hts hg hA
  obtain ⟨adK, adV, hK, hR⟩ := st_str hts hg hA
  refine ⟨aS, adK, adV, ?_⟩
  have nar : ∀ q, pA (l, D, cA, adF s.heap.size b aS adK adV) q → s.heap.size ≤ q := fun q (h : adF s.heap.size b aS adK adV 0 ≤ q) => by
    rw [adF_lo (by omega)] at h
    omega
  refine ⟨fun k hk => ?_, ?_, fun k hk => ?_, (st_cs hts hg hA).narrow nar, (st_pc hts hg hA).narrow nar, st_mn hts, st_fn hts, st_ca hts, va_AO.of (hts _ (tb_m1 (List.mem_of_getElem? (i := 193) rfl))), va_AO.of (hts _ (tb_m1 (List.mem_of_getElem? (i := 139) rfl)))⟩
  · show va_Z "TonightCovers" (kN k) "[I" (.ref (adF s.heap.size b aS adK adV (2000 + k))) _ s s.heap ∧ va_T .int (adF s.heap.size b aS adK adV (2000 + k)) _ _ _ s s.heap
    rw [adF_S (by omega)]
    exact ⟨(hS k hk).1.narrow nar, (hS k hk).2.narrow nar⟩
  · exact (hK.narrow nar).cg (fun i hi => adF_K (by omega)) (fun i hi => adF_V (by omega))
  · show vk_R "TonightCovers$Tape" (100 + 2 * k) (sTx.getD k "") (adF s.heap.size b aS adK adV (1000 + k)) s
    rw [adF_K (by omega)]
    exact hR k hk
/-- from the entry, for every script of at most 2560 ints, the law comes to its end with true -/
theorem whole_start {p : Program} {e : Env} {s : State} {m : MethodId} {below : List Frame} {meth : Method} {c : Code} (l : Launch) {b L : Nat} {xs : Nat → Int32} (hL : L ≤ 2560) (C0 : lw_At p s m meth c b L xs) (hcode : (Cond.code x code maxLocals ret).before #[Value.ref b] s = true) (hname : meth.name = x.name) : W p l e room_1 s m #[Value.ref b] below meth c s.heap [] 0 0 (lw_Z below #[Value.ref b] s) (entryFrame m ([Value.ref b] : List Value).toArray 4) := by
  obtain ⟨hx, hb, hr, hml, hown, hts, hX, hbl, hlocks, hgv⟩ := C0
  obtain ⟨D, cA, hK⟩ := start_K hts
  obtain ⟨aS, adK, adV, hC⟩ := start_KC hts (flat_of_before _ hgv) l D cA b
  obtain ⟨g, eg⟩ : ∃ g : pG, g = (l, D, cA, adF s.heap.size b aS adK adV) := ⟨_, rfl⟩
  have h0 : gad g 0 = s.heap.size := by
    rw [eg]
    show adF s.heap.size b aS adK adV 0 = s.heap.size
    rw [adF_lo (by omega)]
    exact Nat.add_zero _
  have h3 : gad g 3000 = b := by
    rw [eg]
    show adF s.heap.size b aS adK adV 3000 = b
    exact adF_b
  have ha : adOk (gad g) := fun i hi => by
    rw [h0, eg]
    show adF s.heap.size b aS adK adV i = s.heap.size + i
    exact adF_lo hi
  have hg1 : g.1 = l := by rw [eg]
  have hD : g.2.1 = D := by rw [eg]
  have hcA : g.2.2.1 = cA := by rw [eg]
  rw [← eg] at hC
  have hW : Wd g (Nw 0 [] (fun _ _ => 0)) s s.heap := by
    refine ⟨ha, Nat.zero_le _, ?_, ?_⟩
    · intro k q h
      cases h
    · rw [hD, hcA]
      exact hK
  have hl := lv_entry (([Value.ref 3000] : List Value).map (vr (gad g))) (n := 4) (by rw [lg_sl_len]; decide)
  have hv : ([Value.ref b] : List Value) = ([Value.ref 3000] : List Value).map (vr (gad g)) := by
    show [Value.ref b] = [Value.ref (gad g 3000)]
    rw [h3]
  have hwm : ∀ w ∈ wsM mL, w.before #[Value.ref b] s = true := by
    intro w hw
    rcases List.mem_cons.mp hw with rfl | hw
    · exact hcode
    · exact hts w (List.mem_filter.mp hw).1
  rw [hv] at hwm
  rw [← hg1, hv, lg_entry_eq]
  refine law_body g hL p e s m _ below meth c s.heap [] _ ⟨hx, hb, hr, hml, hown, hwm, hlocks, hname, ⟨rfl, by rw [h3]; exact hX, by rw [h3]; exact hbl, h0.symm⟩, hC, by rw [h0]; exact Nat.le_refl _⟩ hW h0.symm va_S.rf ⟨hl.1, hl.2.1, fun q hq => hl.2.2 q ?_⟩
  obtain ⟨i, w⟩ := q
  obtain ⟨-, v, h2, rfl⟩ := (lvF_mem _ 0).mp hq
  have := enL_at (ad := gad g) 0 h2
  simpa using this
