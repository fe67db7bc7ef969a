/-! ===== the constructors: a world that grows ===== -/
def rSL : List (Nat × Nat × Nat) → Nat → Nat → Option Nat
  | [] => fun _ _ => none
  | e :: l => fun j => if j = e.1 then va_up (rSL l j) e.2.1 (some e.2.2) else rSL l j
def Nw (n : Nat) (l : List (Nat × Nat × Nat)) (M : Nat → Nat → Int32) : pS := (n, sh0, rSL l, M)
def mU (M : Nat → Nat → Int32) (i k : Nat) (v : Int32) : Nat → Nat → Int32 := fun j => if j = i then upd (M j) k v else M j
theorem nw_ms {n : Nat} {l : List (Nat × Nat × Nat)} {M : Nat → Nat → Int32} {i k : Nat} {v : Int32} : mSet (Nw n l M) i k v = Nw n l (mU M i k v) := rfl
theorem mU_n {M : Nat → Nat → Int32} {i k m : Nat} {v : Int32} {f : Nat → Int32} (h : m ≠ i) (hm : M m = f) : mU M i k v m = f := (if_neg h).trans hm
theorem rSL_n {l : List (Nat × Nat × Nat)} {i k q m : Nat} {f : Nat → Option Nat} (h : m ≠ i) (hm : rSL l m = f) : rSL ((i, k, q) :: l) m = f := (if_neg h).trans hm
theorem nw_lt {i n : Nat} {l : List (Nat × Nat × Nat)} {M : Nat → Nat → Int32} (h : i < n) : i < (Nw n l M).1 := h
theorem nw_new {n : Nat} {l : List (Nat × Nat × Nat)} {M : Nat → Nat → Int32} {e : (Nat × Nat) ⊕ Nat} (hs : sh0 n = e) (hR : rSL l n = fun _ => none) (hM : M n = fun _ => 0) : mNew (Nw n l M) e = Nw (n + 1) l M := by
  have e1 : (fun j => if j = n then e else sh0 j) = sh0 := funext fun j => by
    by_cases c : j = n
    · rw [if_pos c, c, hs]
    · rw [if_neg c]
  have e2 : (fun j => if j = n then (fun _ => none) else rSL l j) = rSL l := funext fun j => by
    by_cases c : j = n
    · rw [if_pos c, c, hR]
    · rw [if_neg c]
  have e3 : (fun j => if j = n then (fun _ => 0) else M j) = M := funext fun j => by
    by_cases c : j = n
    · rw [if_pos c, c, hM]
    · rw [if_neg c]
  show (n + 1, (fun j => if j = n then e else sh0 j), (fun j => if j = n then (fun _ => none) else rSL l j), (fun j => if j = n then (fun _ => 0) else M j)) = (n + 1, sh0, rSL l, M)
  rw [e1, e2, e3]
theorem n_new {g : pG} {m : pM} {E : pE} {pc : Nat} {L : pL} {st : List Value} {k c : Nat} {idx ci w : Nat} {n : Nat} {l : List (Nat × Nat × Nat)} {M : Nat → Nat → Int32} (d : decode m.2.1 pc = .ok (.new idx, 3)) (hci : ci < 13) (hw : clN ci = w) (hl : Cond.classLink m.1.cls idx (clC ci) ∈ gT) (hin : Cond.instantiable (clC ci) (clN ci) ∈ gT) (hini : Cond.initialized (clC ci) ∈ gT) (hn9 : n ≤ 899) (hc : k + 1 ≤ E.1.cells) (hsl : c + w ≤ E.1.slots) (hs : sh0 n = .inr ci) (hR : rSL l n = fun _ => none) (hM : M n = fun _ => 0)
    (kk : PW g m E (pc + 3) L (.ref n :: st) (Nw (n + 1) l M) (k + 1) (c + w)) : PW g m E pc L st (Nw n l M) k c := r_new (S := Nw n l M) d hci hl hin hini hn9 hc (by rw [hw]; exact hsl) (by rw [nw_new hs hR hM, hw]; exact kk)
theorem n_newA {g : pG} {m : pM} {E : pE} {pc : Nat} {L : pL} {st : List Value} {k c : Nat} {x : Int32} {N t : Nat} {atype : ArrayType} {ty : FieldType} {n : Nat} {l : List (Nat × Nat × Nat)} {M : Nat → Nat → Int32} (d : decode m.2.1 pc = .ok (.newarray atype, 2)) (hty : newarray.typeOf atype = ty) (ht : t < 3) (htt : (tysOf g.2.2.1)[t]? = some (g.2.2.1 t, ty)) (hw : Cond.arrayClass ty ∈ gT) (hdef : defaultValue ty = .int 0) (hprim : ∀ (U : State) (c1 c2 : ClassId), va_RA U c1 ty → va_RA U c2 ty → c1 = c2) (hx : x = nI N) (hN4 : N * componentBytes ty ≤ 536870912) (hN31 : N ≤ 2147483647) (hn9 : n ≤ 899) (hc : k + 1 ≤ E.1.cells) (hsl : c + N ≤ E.1.slots) (hs : sh0 n = .inl (t, N)) (hR : rSL l n = fun _ => none) (hM : M n = fun _ => 0)
    (kk : PW g m E (pc + 2) L (.ref n :: st) (Nw (n + 1) l M) (k + 1) (c + N)) : PW g m E pc L (.int x :: st) (Nw n l M) k c := r_newA (S := Nw n l M) d hty ht htt hw hdef hprim hx hN4 hN31 hn9 hc hsl (by rw [nw_new hs hR hM]; exact kk)
theorem n_newQ {g : pG} {m : pM} {E : pE} {pc : Nat} {L : pL} {st : List Value} {k c : Nat} {x : Int32} {idx N t : Nat} {C : String} {n : Nat} {l : List (Nat × Nat × Nat)} {M : Nat → Nat → Int32} (d : decode m.2.1 pc = .ok (.anewarray idx, 3)) (ht : ¬ t < 3) (htt : (tysOf g.2.2.1)[t]? = some (g.2.2.1 t, .object C)) (hl : Cond.classLink m.1.cls idx C ∈ gT) (hao : ∀ U : State, KC g U → va_AO C U) (hx : x = nI N) (hN4 : N * 4 ≤ 536870912) (hn9 : n ≤ 899) (hc : k + 1 ≤ E.1.cells) (hsl : c + N ≤ E.1.slots) (hs : sh0 n = .inl (t, N)) (hR : rSL l n = fun _ => none) (hM : M n = fun _ => 0)
    (kk : PW g m E (pc + 3) L (.ref n :: st) (Nw (n + 1) l M) (k + 1) (c + N)) : PW g m E pc L (.int x :: st) (Nw n l M) k c := r_newQ (S := Nw n l M) d ht htt hl hao hx hN4 hn9 hc hsl (by rw [nw_new hs hR hM]; exact kk)
theorem n_putR {g : pG} {M : pM} {E : pE} {pc : Nat} {L : pL} {st : List Value} {k c : Nat} {q : Nat} {idx ci kf i : Nat} {ref : String} {n : Nat} {l : List (Nat × Nat × Nat)} {F : Nat → Nat → Int32} (d : decode M.2.1 pc = .ok (.putfield idx, 3)) (hs : (Nw n l F).2.1 i = .inr ci) (hi : i < (Nw n l F).1) (hci : ci < 13) (hk : kf < clN ci) (hrf : isRf (clTy ci kf) = true) (hl : Cond.fieldLink M.1.cls idx ref (clT ci kf).2.1 (clT ci kf).2.2.1 ∈ gT) (hown : (clT ci kf).1 = M.1.cls) (href : ref = M.1.cls) (hfin : (clT ci kf).2.2.2 = true) (hnm : M.1.name = "<init>") (kk : PW g M E (pc + 3) L st (Nw n ((i, kf, q) :: l) F) k c) : PW g M E pc L (.ref q :: .ref i :: st) (Nw n l F) k c := r_putR d hs hi hci hk hrf hl hown href hfin hnm kk
theorem rSL_all {n : Nat} : ∀ l : List (Nat × Nat × Nat), l.all (fun e => decide (n ≠ e.1)) = true → rSL l n = fun _ => none
  | [], _ => rfl
  | e :: l, h => by
    rw [List.all_cons, Bool.and_eq_true] at h
    show (if n = e.1 then _ else rSL l n) = _
    rw [if_neg (of_decide_eq_true h.1)]
    exact rSL_all l h.2
def cmL (b : Nat) (l : List (Nat × Nat × Nat)) : List (Nat × Nat × Nat) := (b, 11, b + 8) :: (b, 10, b + 7) :: (b, 5, b + 6) :: (b, 4, b + 5) :: (b, 3, b + 4) :: (b, 2, b + 3) :: (b, 1, b + 2) :: (b, 0, b + 1) :: l
theorem Co_N {b : Nat} {l : List (Nat × Nat × Nat)} {M : Nat → Nat → Int32} (hb : b = 1 ∨ b = 10 ∨ b = 19) : Co (Nw (b + 9) (cmL b l) M) b := by
  rcases hb with rfl | rfl | rfl <;> exact ⟨nw_lt (by decide), rfl, ⟨rfl, rfl, rfl, rfl, rfl, rfl, rfl, rfl⟩, rfl, rfl, rfl, rfl, rfl, rfl, rfl, rfl⟩
def coB : Nat → Int32 := begC (upd (fun _ => 0) 5 1)
theorem vw_zero {n b : Nat} {l : List (Nat × Nat × Nat)} {M : Nat → Nat → Int32} (h : ∀ m, b ≤ m → M m = fun _ => 0) : vw (Nw n l M) b = fun _ => 0 := funext fun i => by
  unfold vw
  split
  · show M _ _ = 0
    rw [h _ (by omega)]
  · rfl
set_option maxRecDepth 20000 in
set_option maxHeartbeats 1000000 in
theorem s_X0_init (g : pG) {b : Nat} (hb : b = 1 ∨ b = 10 ∨ b = 19) {l : List (Nat × Nat × Nat)} {M : Nat → Nat → Int32} (hR : ∀ m, b ≤ m → rSL l m = fun _ => none) (hM : ∀ m, b ≤ m → M m = fun _ => 0) : MS g mX0_init 2 8 116 [.ref b] (Nw (b + 1) l M) (eV (fun S1 => ∃ M1, S1 = Nw (b + 9) (cmL b l) M1 ∧ (∀ q, (q < b ∨ b + 2 < q) → M1 q = M q) ∧ vw S1 b = coB)) := by
  refine MS.of pn_X0 (Nat.le_of_ble_eq_true rfl) ?_
  refine r_aload_n dX0_init_0 rfl rfl ?_
  refine r_objInit dX0_init_1 ml_X0_3 mi_Obj cd_Obj (Nat.le_of_ble_eq_true rfl) (Nat.le_of_ble_eq_true rfl) (Nat.le_of_ble_eq_true rfl) ?_
  refine r_aload_n dX0_init_4 rfl rfl ?_
  refine r_iconst (v := 4) dX0_init_5 (by decide) ?_
  refine n_newA (N := 4) (t := 0) dX0_init_6 rfl (by decide) rfl ac_int rfl ra_int rfl (by decide) (by decide) (by omega) (Nat.le_of_ble_eq_true rfl) (Nat.le_of_ble_eq_true rfl) (by rcases hb with rfl | rfl | rfl <;> rfl) (by repeat' first | exact hR _ (by omega) | refine rSL_n (by omega) ?_) (by repeat' first | exact hM _ (by omega) | refine mU_n (by omega) ?_) ?_
  refine n_putR (q := (b + 1)) (i := b) dX0_init_8 (ci := 0) (kf := 0) (by rcases hb with rfl | rfl | rfl <;> rfl) (nw_lt (by omega)) (by decide) (by decide) rfl fl_X0_9 rfl rfl rfl rfl ?_
  refine r_aload_n dX0_init_11 rfl rfl ?_
  refine r_bipush (v := 8) dX0_init_12 (by decide) ?_
  refine n_newA (N := 8) (t := 0) dX0_init_14 rfl (by decide) rfl ac_int rfl ra_int rfl (by decide) (by decide) (by omega) (Nat.le_of_ble_eq_true rfl) (Nat.le_of_ble_eq_true rfl) (by rcases hb with rfl | rfl | rfl <;> rfl) (by repeat' first | exact hR _ (by omega) | refine rSL_n (by omega) ?_) (by repeat' first | exact hM _ (by omega) | refine mU_n (by omega) ?_) ?_
  refine n_putR (q := (b + 2)) (i := b) dX0_init_16 (ci := 0) (kf := 1) (by rcases hb with rfl | rfl | rfl <;> rfl) (nw_lt (by omega)) (by decide) (by decide) rfl fl_X0_15 rfl rfl rfl rfl ?_
  refine r_aload_n dX0_init_19 rfl rfl ?_
  refine r_bipush (v := 8) dX0_init_20 (by decide) ?_
  refine n_newA (N := 8) (t := 0) dX0_init_22 rfl (by decide) rfl ac_int rfl ra_int rfl (by decide) (by decide) (by omega) (Nat.le_of_ble_eq_true rfl) (Nat.le_of_ble_eq_true rfl) (by rcases hb with rfl | rfl | rfl <;> rfl) (by repeat' first | exact hR _ (by omega) | refine rSL_n (by omega) ?_) (by repeat' first | exact hM _ (by omega) | refine mU_n (by omega) ?_) ?_
  refine n_putR (q := (b + 3)) (i := b) dX0_init_24 (ci := 0) (kf := 2) (by rcases hb with rfl | rfl | rfl <;> rfl) (nw_lt (by omega)) (by decide) (by decide) rfl fl_X0_18 rfl rfl rfl rfl ?_
  refine r_aload_n dX0_init_27 rfl rfl ?_
  refine r_bipush (v := 8) dX0_init_28 (by decide) ?_
  refine n_newA (N := 8) (t := 0) dX0_init_30 rfl (by decide) rfl ac_int rfl ra_int rfl (by decide) (by decide) (by omega) (Nat.le_of_ble_eq_true rfl) (Nat.le_of_ble_eq_true rfl) (by rcases hb with rfl | rfl | rfl <;> rfl) (by repeat' first | exact hR _ (by omega) | refine rSL_n (by omega) ?_) (by repeat' first | exact hM _ (by omega) | refine mU_n (by omega) ?_) ?_
  refine n_putR (q := (b + 4)) (i := b) dX0_init_32 (ci := 0) (kf := 3) (by rcases hb with rfl | rfl | rfl <;> rfl) (nw_lt (by omega)) (by decide) (by decide) rfl fl_X0_21 rfl rfl rfl rfl ?_
  refine r_aload_n dX0_init_35 rfl rfl ?_
  refine r_bipush (v := 8) dX0_init_36 (by decide) ?_
  refine n_newA (N := 8) (t := 0) dX0_init_38 rfl (by decide) rfl ac_int rfl ra_int rfl (by decide) (by decide) (by omega) (Nat.le_of_ble_eq_true rfl) (Nat.le_of_ble_eq_true rfl) (by rcases hb with rfl | rfl | rfl <;> rfl) (by repeat' first | exact hR _ (by omega) | refine rSL_n (by omega) ?_) (by repeat' first | exact hM _ (by omega) | refine mU_n (by omega) ?_) ?_
  refine n_putR (q := (b + 5)) (i := b) dX0_init_40 (ci := 0) (kf := 4) (by rcases hb with rfl | rfl | rfl <;> rfl) (nw_lt (by omega)) (by decide) (by decide) rfl fl_X0_24 rfl rfl rfl rfl ?_
  refine r_aload_n dX0_init_43 rfl rfl ?_
  refine r_bipush (v := 64) dX0_init_44 (by decide) ?_
  refine n_newA (N := 64) (t := 0) dX0_init_46 rfl (by decide) rfl ac_int rfl ra_int rfl (by decide) (by decide) (by omega) (Nat.le_of_ble_eq_true rfl) (Nat.le_of_ble_eq_true rfl) (by rcases hb with rfl | rfl | rfl <;> rfl) (by repeat' first | exact hR _ (by omega) | refine rSL_n (by omega) ?_) (by repeat' first | exact hM _ (by omega) | refine mU_n (by omega) ?_) ?_
  refine n_putR (q := (b + 6)) (i := b) dX0_init_48 (ci := 0) (kf := 5) (by rcases hb with rfl | rfl | rfl <;> rfl) (nw_lt (by omega)) (by decide) (by decide) rfl fl_X0_27 rfl rfl rfl rfl ?_
  refine r_aload_n dX0_init_51 rfl rfl ?_
  refine r_iconst (v := 1) dX0_init_52 (by decide) ?_
  refine r_putI dX0_init_53 (ci := 0) (kf := 9) (by rcases hb with rfl | rfl | rfl <;> rfl) (nw_lt (by omega)) (by decide) (by decide) rfl fl_X0_30 (Or.inl rfl) rfl rfl rfl ?_
  rw [nw_ms]
  refine r_aload_n dX0_init_56 rfl rfl ?_
  refine r_bipush (v := 8) dX0_init_57 (by decide) ?_
  refine n_newA (N := 8) (t := 0) dX0_init_59 rfl (by decide) rfl ac_int rfl ra_int rfl (by decide) (by decide) (by omega) (Nat.le_of_ble_eq_true rfl) (Nat.le_of_ble_eq_true rfl) (by rcases hb with rfl | rfl | rfl <;> rfl) (by repeat' first | exact hR _ (by omega) | refine rSL_n (by omega) ?_) (by repeat' first | exact hM _ (by omega) | refine mU_n (by omega) ?_) ?_
  refine n_putR (q := (b + 7)) (i := b) dX0_init_61 (ci := 0) (kf := 10) (by rcases hb with rfl | rfl | rfl <;> rfl) (nw_lt (by omega)) (by decide) (by decide) rfl fl_X0_34 rfl rfl rfl rfl ?_
  refine r_aload_n dX0_init_64 rfl rfl ?_
  refine r_bipush (v := 8) dX0_init_65 (by decide) ?_
  refine n_newA (N := 8) (t := 0) dX0_init_67 rfl (by decide) rfl ac_int rfl ra_int rfl (by decide) (by decide) (by omega) (Nat.le_of_ble_eq_true rfl) (Nat.le_of_ble_eq_true rfl) (by rcases hb with rfl | rfl | rfl <;> rfl) (by repeat' first | exact hR _ (by omega) | refine rSL_n (by omega) ?_) (by repeat' first | exact hM _ (by omega) | refine mU_n (by omega) ?_) ?_
  refine n_putR (q := (b + 8)) (i := b) dX0_init_69 (ci := 0) (kf := 11) (by rcases hb with rfl | rfl | rfl <;> rfl) (nw_lt (by omega)) (by decide) (by decide) rfl fl_X0_37 rfl rfl rfl rfl ?_
  refine r_aload_n dX0_init_72 rfl rfl ?_
  refine r_callV_eV (ci := 0) dX0_init_73 (s_X0_becomeAsAtFirst g (Co_N (l := l) hb)) mf_X0_becomeAsAtFirst mi_X0_becomeAsAtFirst se_X0_X0_X0_becomeAsAtFirst ml_X0_40 rfl rfl (nw_lt (by omega)) (by rcases hb with rfl | rfl | rfl <;> rfl) (by decide) rfl (Nat.le_of_ble_eq_true rfl) ⟨(Nat.le_of_ble_eq_true rfl), (Nat.le_of_ble_eq_true rfl)⟩ ⟨(Nat.le_of_ble_eq_true rfl), (Nat.le_of_ble_eq_true rfl)⟩ (fun S_73 q_73 z_73 => ?_)
  refine r_vret dX0_init_76 rfl (Nat.le_refl _) ?_
  (try dsimp only [Gs_M])
  obtain ⟨f_7, v_7⟩ := q_73
  have ev : vw (Nw (b + 9) (cmL b l) (mU M b 9 1)) b = upd (fun _ => 0) 5 1 := (vs_5 (S := Nw (b + 9) (cmL b l) M)).trans (by rw [vw_zero hM])
  refine ⟨rfl, S_73.2.2.2, ?_, fun q hq => ?_, ?_⟩
  · obtain ⟨⟨e1, e2, e3⟩, _⟩ := f_7
    obtain ⟨a1, a2, a3, a4⟩ := S_73
    dsimp only at e1 e2 e3
    subst e1 e2 e3
    rfl
  · refine (f_7.2 q (fun z => by revert z; simp [frl]; omega)).trans ?_
    show mU M b 9 1 q = M q
    exact if_neg (by omega)
  · rw [v_7]
    exact congrArg begC ev
