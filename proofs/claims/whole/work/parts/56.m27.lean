/-! ===== a text is read whole ===== -/
theorem kq.mono {J J' F F' : List Nat} {S S' : pS} (h : kq J F S S') (hj : ∀ q, q ∈ J → q ∈ J') (hf : ∀ q, q ∈ F → q ∈ F') : kq J' F' S S' := ⟨h.1, fun q a b => h.2.1 q (fun z => a (hj q z)) b, fun f a b => h.2.2 f (fun z => a (hf f z)) b⟩
theorem kq.arrW {J F : List Nat} {S S' : pS} (h : kq J F S S') {i : Nat} {f : Nat → Int32} (hi : i ∈ J) (h54 : i ≠ 54) : kq J F S (mArr S' i f) := ⟨h.1, fun q a b => by rw [mArr_ne (fun z => a (by rw [z]; exact hi))]; exact h.2.1 q a b, fun x a b => by rw [mArr_ne (Ne.symm h54)]; exact h.2.2 x a b⟩
theorem kq_tp {M : Nat → Nat → Int32} {R : Nat → Int32} {a g : Nat} {t v : Int32} : kq [58] [11, 12, 13, 14] (Gs M) (Gs (tpS M R a g t v)) := ⟨⟨rfl, rfl, rfl⟩, fun q h h2 => by
    show (if q = 58 then R else if q = 54 then _ else M q) = M q
    rw [if_neg (fun z => h (by rw [z]; exact List.mem_cons_self)), if_neg h2], fun f h h2 => by
    simp only [List.mem_cons, List.not_mem_nil, or_false, not_or] at h
    show (if f = 11 then _ else if f = 12 then _ else if f = 13 then _ else if f = 14 then _ else M 54 f) = M 54 f
    rw [if_neg h.1, if_neg h.2.1, if_neg h.2.2.1, if_neg h.2.2.2]⟩
def uN (x : Int32) : Nat := x.toBitVec.toNat
theorem nI_uN (x : Int32) : nI (uN x) = x := by
  apply Int32.toBitVec_inj.mp
  rw [nI_tb]
  apply BitVec.eq_of_toNat_eq
  rw [BitVec.toNat_ofNat]
  exact Nat.mod_eq_of_lt x.toBitVec.isLt
theorem tp_begin {M : Nat → Nat → Int32} {f : Nat → Int32} {x : Int32} : mSet (mArr (mSet (Gs M) 54 11 0) 58 f) 58 5 x = Gs (tpS M (upd f 5 x) 0 (uN (M 54 12)) (M 54 13) (M 54 14)) := by
  rw [mArr_set]
  refine congrArg (fun f => ((71, sh0, rf0, f) : pS)) ?_
  funext q k
  show (if q = 58 then upd f 5 x else if q = 54 then upd (M q) 11 0 else M q) k = (if q = 58 then upd f 5 x else if q = 54 then (fun f => if f = 11 then nI 0 else if f = 12 then nI (uN (M 54 12)) else if f = 13 then M 54 13 else if f = 14 then M 54 14 else M 54 f) else M q) k
  by_cases h : q = 58
  · rw [if_pos h, if_pos h]
  · rw [if_neg h, if_neg h]
    by_cases h2 : q = 54
    · subst h2
      rw [if_pos rfl, if_pos rfl]
      show (if k = 11 then 0 else M 54 k) = _
      by_cases h3 : k = 11
      · rw [if_pos h3]; subst h3; rfl
      · rw [if_neg h3]
        simp only [h3, if_false]
        by_cases h4 : k = 12
        · rw [if_pos h4, h4, nI_uN]
        · rw [if_neg h4]
          by_cases h5 : k = 13
          · rw [if_pos h5, h5]
          · rw [if_neg h5]
            by_cases h6 : k = 14
            · rw [if_pos h6, h6]
            · rw [if_neg h6]
    · rw [if_neg h2, if_neg h2]
/-! how a token moves on -/
def adv (P Q : pT) : Prop := P.1 ≤ Q.1 ∧ (Q.2.2.1 = -1 ∨ P.1 < Q.1)
theorem run_gt {p : Int32 → Bool} {b : Nat → Int32} {n s : Nat} (hs : s ≤ 200) (h : p (byR b n s) = true) : s < runR p b n (201 - s) s := by
  rw [show 201 - s = (201 - (s + 1)) + 1 by omega, runR, if_pos h]
  exact run_ge _ _
theorem nextR_adv {L b : Nat → Int32} {n : Nat} {P : pT} (hn : n ≤ 200) (h : P.1 ≤ n) : adv P (nextR L b n P) := by
  have h0 : P.1 ≤ runR isSp b n (201 - P.1) P.1 := run_ge _ _
  have h1 : runR isSp b n (201 - P.1) P.1 ≤ n := run_le (by decide) _ _ h
  by_cases c1 : byR b n (runR isSp b n (201 - P.1) P.1) < 0
  · rw [nx1 rfl c1]; exact ⟨h0, Or.inl rfl⟩
  · by_cases c2 : isLo (byR b n (runR isSp b n (201 - P.1) P.1)) = true
    · rw [nx2 rfl c1 c2]
      have := run_gt (p := isLo) (b := b) (n := n) (by omega) c2
      exact ⟨by show P.1 ≤ runR isLo _ _ _ _; omega, Or.inr (by show P.1 < runR isLo _ _ _ _; omega)⟩
    · by_cases c3 : isDg (byR b n (runR isSp b n (201 - P.1) P.1)) = true
      · rw [nx3 rfl c1 c2 c3]
        have := run_gt (p := isDg) (b := b) (n := n) (by omega) c3
        exact ⟨by show P.1 ≤ runR isDg _ _ _ _; omega, Or.inr (by show P.1 < runR isDg _ _ _ _; omega)⟩
      · rw [nx4 rfl c1 c2 c3]
        exact ⟨by show P.1 ≤ _ + 1; omega, Or.inr (by show P.1 < _ + 1; omega)⟩
theorem adv.tr {P Q R : pT} (h : adv P Q) (h2 : adv Q R) : adv P R := ⟨Nat.le_trans h.1 h2.1, h2.2.elim Or.inl (fun z => Or.inr (Nat.lt_of_le_of_lt h.1 z))⟩
theorem tkP_adv {L b : Nat → Int32} {n : Nat} {P Q : pT} {w : Int32} (hn : n ≤ 200) (hq : Q.1 ≤ n) (h : adv P Q) : adv P (tkP L b n Q w) := by
  unfold tkP; split
  · exact h.tr (nextR_adv hn hq)
  · exact h
theorem tnP_adv {L b : Nat → Int32} {n : Nat} {P Q : pT} {m : Int32} (hn : n ≤ 200) (hq : Q.1 ≤ n) (h : adv P Q) : adv P (tnP L b n Q m) := by
  unfold tnP; split
  · exact h
  · exact h.tr (nextR_adv hn hq)
theorem skF_adv {L b : Nat → Int32} {n : Nat} {P Q : pT} (hn : n ≤ 200) (hq : Q.1 ≤ n) (h : adv P Q) : adv P (skF L b n Q).2 := by
  unfold skF; split
  · exact tnP_adv hn (nextR_le hq).1 (h.tr (nextR_adv hn hq))
  · exact h
theorem ilF_adv {L b : Nat → Int32} {n : Nat} {s : Int32} {P Q : pT} (hn : n ≤ 200) (hq : Q.1 ≤ n) (h : adv P Q) : adv P (ilF L b n s Q).2 := by
  unfold ilF; split
  · exact tnP_adv hn (nextR_le hq).1 (h.tr (nextR_adv hn hq))
  · exact h
theorem plE_adv {L b : Nat → Int32} {n : Nat} {kd part : Int32} {R : Nat → Int32} {P Q : pT} (hn : n ≤ 200) (hq : Q.1 ≤ n) (h : adv P Q) : adv P (plE L b n kd R part Q).2.2 :=
  show adv P (ilF L b n (skF L b n Q).1 (skF L b n Q).2).2 from ilF_adv hn (skF_le hq) (skF_adv hn hq h)
theorem plF_adv {L b : Nat → Int32} {n : Nat} {kd : Int32} {R : Nat → Int32} {P : pT} (hn : n ≤ 200) (h : P.1 ≤ n) (ht : (plF L b n kd R P).1 = true) : adv P (plF L b n kd R P).2.2 := by
  have a1 := nextR_adv (L := L) (b := b) hn h
  have l1 := (nextR_le (L := L) (b := b) h).1
  by_cases c : R 6 = 8
  · rw [plF_1 c] at ht; exact Bool.noConfusion (show false = true from ht)
  · by_cases c2 : (nextR L b n P).2.2.1 = 11
    · have a2 := nextR_adv (L := L) (b := b) hn l1
      have l2 := (nextR_le (L := L) (b := b) l1).1
      by_cases c3 : tnV (nextR L b n (nextR L b n P)) 7 < 0
      · rw [plF_3 c c2 c3] at ht; exact Bool.noConfusion (show false = true from ht)
      · have e : plF L b n kd R P = plE L b n kd R (tnV (nextR L b n (nextR L b n P)) 7) (tnP L b n (nextR L b n (nextR L b n P)) 7) := by unfold plF; rw [if_neg c, if_pos c2, if_neg c3]
        rw [e]
        exact plE_adv hn (tnP_le l2) (tnP_adv hn l2 (a1.tr a2))
    · rw [plF_2 c c2] at ht; exact Bool.noConfusion (show false = true from ht)
theorem wgF_adv {L b : Nat → Int32} {n : Nat} {R : Nat → Int32} {P : pT} (hn : n ≤ 200) (h : P.1 ≤ n) (ht : (wgF L b n R P).1 = true) : adv P (wgF L b n R P).2.2 := by
  have a1 := nextR_adv (L := L) (b := b) hn h
  have l1 := (nextR_le (L := L) (b := b) h).1
  by_cases c : tnV (nextR L b n P) 7 < 0
  · rw [wgF_0 c] at ht; exact Bool.noConfusion (show false = true from ht)
  · by_cases c2 : tnV (tnP L b n (nextR L b n P) 7) 9 < 0
    · rw [wgF_n c rfl c2] at ht; exact Bool.noConfusion (show false = true from ht)
    · rw [wgF_y c rfl c2]
      have h3 : adv P (tnP L b n (tnP L b n (nextR L b n P) 7) 9) := tnP_adv hn (tnP_le l1) (tnP_adv hn l1 a1)
      generalize tnP L b n (tnP L b n (nextR L b n P) 7) 9 = P3 at h3 ⊢
      exact h3
theorem lwF_adv {L b : Nat → Int32} {n w : Nat} {R : Nat → Int32} {P : pT} (hn : n ≤ 200) (h : P.1 ≤ n) : adv P (lwF L b n w R P).2.2 := by
  have a1 := nextR_adv (L := L) (b := b) hn h
  have l1 := (nextR_le (L := L) (b := b) h).1
  unfold lwF
  by_cases c : w = 1 ∨ w = 2
  · rw [if_pos c]
    have h3 : adv P (tnP L b n (nextR L b n P) 9) := tnP_adv hn l1 a1
    generalize tnP L b n (nextR L b n P) 9 = P3 at h3 ⊢
    exact h3
  · rw [if_neg c]
    have h3 : adv P (tnP L b n (nextR L b n P) 99) := tnP_adv hn l1 a1
    generalize tnP L b n (nextR L b n P) 99 = P3 at h3 ⊢
    exact h3
theorem rdF_adv {L b : Nat → Int32} {n : Nat} {R : Nat → Int32} {P : pT} (hn : n ≤ 200) (h : P.1 ≤ n) (ht : (rdF L b n R P).1 = true) : adv P (rdF L b n R P).2.2 := by
  by_cases c : 0 ≤ P.2.2.1 ∧ P.2.2.1 ≤ 5
  · rw [rd_0 c] at ht ⊢; exact plF_adv hn h ht
  · by_cases c2 : P.2.2.1 = 6
    · rw [rd_1 c c2] at ht ⊢; exact wgF_adv hn h ht
    · by_cases c3 : 7 ≤ P.2.2.1 ∧ P.2.2.1 ≤ 10
      · obtain ⟨w, h1, h4, ew⟩ := lawTok c3
        rw [rd_2 c c2 c3 ew h4]; exact lwF_adv hn h
      · rw [rd_3 c c2 c3] at ht; exact Bool.noConfusion (show false = true from ht)
theorem oneF_adv {L b : Nat → Int32} {n : Nat} {R : Nat → Int32} {P : pT} (hn : n ≤ 200) (h : P.1 ≤ n) (ht : (oneF L b n R P).1 = true) : P.1 < (oneF L b n R P).2.2.1 := by
  obtain ⟨r, er⟩ : ∃ r, rdF L b n R P = r := ⟨_, rfl⟩
  have hl : r.2.2.1 ≤ n := er ▸ rdF_le h
  by_cases c : r.1 = true
  · have a1 : adv P r.2.2 := er ▸ rdF_adv hn h (er.symm ▸ c)
    by_cases c2 : r.2.2.2.2.1 = 259
    · have lt : P.1 < r.2.2.1 := a1.2.elim (fun z => absurd (c2.symm.trans z) (by decide)) id
      rw [oneF_y er c c2]
      show P.1 < (tkP L b n r.2.2 259).1
      rw [show tkP L b n r.2.2 259 = nextR L b n r.2.2 from if_pos c2]
      exact Nat.lt_of_lt_of_le lt (nextR_adv hn hl).1
    · rw [oneF_n er c c2] at ht; exact Bool.noConfusion (show false = true from ht)
  · rw [oneF_0 er c] at ht; exact Bool.noConfusion (show false = true from ht)
/-! the ranges, kept -/
theorem plN_inv {R : Nat → Int32} {p j : Nat} {kd pv il sk : Int32} (hI : InvR R) (hp : p < 8) (hj : j ≤ 7) (ej : pv = nI j) : InvR (plN R p j kd pv il sk) := by
  refine ⟨⟨p + 1, by omega, pk_us⟩, fun k hk => ?_⟩
  unfold plN
  rw [pk_un (by omega), pk_un (by omega), pk_un (by omega)]
  by_cases e : k = p
  · subst e
    rw [pk_us]
    exact ⟨j, by omega, ej⟩
  · rw [pk_un (by omega), pk_un (by omega)]
    exact hI.2 k hk
theorem tn_r7 {P : pT} (h : ¬ tnV P 7 < 0) : ∃ j, j ≤ 7 ∧ tnV P 7 = nI j := tn_rng 7 (by decide) h
theorem rdF_inv {L b : Nat → Int32} {n : Nat} {R : Nat → Int32} {P : pT} (hI : InvR R) : InvR (rdF L b n R P).2.1 := by
  unfold rdF
  split
  · unfold plF
    split
    · exact hI
    · next c8 =>
      split
      · split
        · exact hI
        · next c7 =>
          obtain ⟨j, hj, ej⟩ := tn_r7 c7
          obtain ⟨p, hp, e6⟩ := hI.1
          have hp8 : p < 8 := by
            rcases Nat.lt_or_ge p 8 with h | h
            · exact h
            · exact absurd (by rw [e6, show p = 8 by omega]; rfl) c8
          unfold plE
          show InvR (plN R (cl (R 6)) _ _ _ _ _)
          rw [e6, cl_nI (by omega), show cl (tnV (nextR L b n (nextR L b n P)) 7) = j by rw [ej, cl_nI (by omega)]]
          exact plN_inv hI hp8 hj ej
      · exact hI
  · split
    · unfold wgF
      split
      · exact hI
      · next c7 =>
        obtain ⟨j, hj, ej⟩ := tn_r7 c7
        show InvR (upd R (8 + cl _) _)
        rw [ej, cl_nI (by omega)]
        exact upd_inv hI (by omega) (fun k _ => by omega)
    · split
      · next c =>
        obtain ⟨w, h1, h4, ew⟩ := lawTok c
        rw [ew, cl_nI (by omega)]
        unfold lwF
        split
        · exact upd_inv hI (by omega) (fun k _ => by omega)
        · exact upd_inv hI (by omega) (fun k _ => by omega)
      · exact hI
theorem oneF_inv {L b : Nat → Int32} {n : Nat} {R : Nat → Int32} {P : pT} (hI : InvR R) : InvR (oneF L b n R P).2.1 := by
  unfold oneF
  split
  · exact rdF_inv hI
  · exact rdF_inv hI
theorem wtR_ne {f : Nat → Int32} {x : Nat} : ∀ i, (∀ j, j < i → x ≠ 8 + j) → wtR f i x = f x
  | 0, _ => rfl
  | i + 1, h => by rw [wtR, pk_un (h i (by omega)), wtR_ne i (fun j hj => h j (by omega))]
theorem begR_0 {f : Nat → Int32} {x : Nat} (h : x < 104) (h1 : x = 0 ∨ 5 ≤ x) (h2 : x < 8 ∨ 16 ≤ x) : begR f x = 0 := by
  unfold begR
  rw [wtR_ne 8 (fun j hj => by omega), pk_un (by omega), pk_un (by omega), pk_un (by omega), pk_un (by omega)]
  exact if_pos h
theorem begR_inv {f : Nat → Int32} {z : Int32} : InvR (upd (begR f) 5 z) := by
  refine ⟨⟨0, by omega, ?_⟩, fun k hk => ⟨0, by omega, ?_⟩⟩
  · rw [pk_un (by omega), begR_0 (by omega) (by omega) (by omega)]; rfl
  · rw [pk_un (by omega), begR_0 (by omega) (by omega) (by omega)]; rfl
abbrev cT := Bool × (Nat → Int32) × pT
def cmR (L b : Nat → Int32) (n : Nat) : Nat → Bool → (Nat → Int32) → pT → cT
  | 0, is, R, P => (is, R, P)
  | f + 1, is, R, P => if is = true ∧ ¬ P.2.2.1 = -1 then cmR L b n f (oneF L b n R P).1 (oneF L b n R P).2.1 (oneF L b n R P).2.2 else (is, R, P)
theorem cmR_e {L b : Nat → Int32} {n : Nat} {is : Bool} {R : Nat → Int32} {P : pT} (h : ¬ (is = true ∧ ¬ P.2.2.1 = -1)) : ∀ f, cmR L b n f is R P = (is, R, P)
  | 0 => rfl
  | f + 1 => by rw [cmR, if_neg h]
theorem cmR_y {L b : Nat → Int32} {n f : Nat} {is : Bool} {R : Nat → Int32} {P : pT} (h : is = true) (h2 : ¬ P.2.2.1 = -1) : cmR L b n (f + 1) is R P = cmR L b n f (oneF L b n R P).1 (oneF L b n R P).2.1 (oneF L b n R P).2.2 := by rw [cmR, if_pos ⟨h, h2⟩]
def cmX (r : cT) : Int32 := if r.1 = true then r.2.1 6 else -100 - nI r.2.2.2.1
def cmW (r : cT) (W : Nat → Int32) : Nat → Int32 := if r.1 = true then ovr r.2.1 W else W
def cmN (r : cT) (m : Int32) : Int32 := if r.1 = true then 0 else m
/-- what company() reads -/
def cmA (M : Nat → Nat → Int32) (n : Nat) : cT := cmR (M 62) (M 61) n 202 true (upd (begR (M 58)) 5 (M 55 5)) (nextR (M 62) (M 61) n (0, uN (M 54 12), M 54 13, M 54 14))
theorem cmX_f {R : Nat → Int32} {P : pT} : cmX (false, R, P) = -100 - nI P.2.1 := if_neg Bool.false_ne_true
theorem cmX_t {R : Nat → Int32} {P : pT} : cmX (true, R, P) = R 6 := if_pos rfl
theorem cmW_f {R W : Nat → Int32} {P : pT} : cmW (false, R, P) W = W := if_neg Bool.false_ne_true
theorem cmW_t {R W : Nat → Int32} {P : pT} : cmW (true, R, P) W = ovr R W := if_pos rfl
theorem cmN_f {R : Nat → Int32} {P : pT} {m : Int32} : cmN (false, R, P) m = m := if_neg Bool.false_ne_true
theorem cmN_t {R : Nat → Int32} {P : pT} {m : Int32} : cmN (true, R, P) m = 0 := if_pos rfl
theorem cmA_e {M : Nat → Nat → Int32} {n : Nat} {r : cT} (h : cmA M n = r) {is : Bool} {R : Nat → Int32} {P : pT} (h2 : r = (is, R, P)) : cmA M n = (is, R, P) := h.trans h2
set_option maxRecDepth 20000 in
set_option maxHeartbeats 1000000 in
theorem s_X12_company (g : pG) {S : pS} (hS : sOk S) {n : Nat} (hn : n ≤ 200) (en : S.2.2.2 54 9 = nI n) : MS g mX12_company 8 0 0 [.ref 54] (S) (eI (fun rx S1 => kq [55, 58] [9, 11, 12, 13, 14, 17] (S) S1 ∧ rx = cmX (cmA S.2.2.2 n) ∧ S1.2.2.2 55 = cmW (cmA S.2.2.2 n) (S.2.2.2 55) ∧ S1.2.2.2 54 9 = 0 ∧ S1.2.2.2 54 17 = cmN (cmA S.2.2.2 n) (S.2.2.2 54 17))) := by
  obtain ⟨M0, rfl⟩ := sOk_gs hS
  have en : M0 54 9 = nI n := en
  refine MS.of pn_X12 (Nat.le_of_ble_eq_true rfl) ?_
  have J : ∀ (is : Bool) (R : Nat → Int32) (P : pT), cmA M0 n = (is, R, P) → PW g mX12_company (eN g (Gs M0).1 8 0 0 (eI (fun rx S1 => kq [55, 58] [9, 11, 12, 13, 14, 17] (Gs M0) S1 ∧ rx = cmX (cmA M0 n) ∧ S1.2.2.2 55 = cmW (cmA M0 n) (M0 55) ∧ S1.2.2.2 54 9 = 0 ∧ S1.2.2.2 54 17 = cmN (cmA M0 n) (M0 54 17)))) 50 [some (.ref 54), some (.int (bI (is = true)))] [] (Gs (tpP M0 R P)) 0 0 := by
    intro is R P hr
    refine r_aload_n dX12_company_50 rfl rfl ?_
    refine r_iconst (v := 0) dX12_company_51 (by decide) ?_
    refine r_putI dX12_company_52 (ci := 12) (kf := 9) rfl (Nat.le_of_ble_eq_true rfl) (by decide) (by decide) rfl fl_X12_117 (Or.inl rfl) rfl rfl rfl ?_
    refine r_iload_n dX12_company_55 rfl rfl ?_
    refine r_if_ne (tgt := 67) dX12_company_56 (by decide) (fun c_56 => ?_) (fun c_56 => ?_)
    · have c_56 := bI_n c_56
      (try dsimp only [Gs_M] at c_56)
      refine r_aload_n dX12_company_67 rfl rfl ?_
      refine r_getR (q := 58) dX12_company_68 (ci := 12) (kf := 3) rfl (Nat.le_of_ble_eq_true rfl) (by decide) (by decide) rfl fl_X12_19 (Or.inl rfl) rfl ?_
      refine r_aload_n dX12_company_71 rfl rfl ?_
      refine r_getR (q := 55) dX12_company_72 (ci := 12) (kf := 0) rfl (Nat.le_of_ble_eq_true rfl) (by decide) (by decide) rfl fl_X12_9 (Or.inl rfl) rfl ?_
      refine r_callS_dV dX12_company_75 (s_X12_copies g (by decide) rfl rfl (Nat.le_of_ble_eq_true rfl) (Nat.le_of_ble_eq_true rfl)) mf_X12_copies mt_X12_copies ml_X12_169 rfl rfl (Nat.le_of_ble_eq_true rfl) ⟨(Nat.le_of_ble_eq_true rfl), (Nat.le_of_ble_eq_true rfl)⟩ ⟨(Nat.le_of_ble_eq_true rfl), (Nat.le_of_ble_eq_true rfl)⟩ ?_
      refine r_aload_n dX12_company_78 rfl rfl ?_
      refine r_iconst (v := 0) dX12_company_79 (by decide) ?_
      refine r_putI dX12_company_80 (ci := 12) (kf := 17) rfl (Nat.le_of_ble_eq_true rfl) (by decide) (by decide) rfl fl_X12_173 (Or.inl rfl) rfl rfl rfl ?_
      refine r_aload_n dX12_company_83 rfl rfl ?_
      refine r_getR (q := 55) dX12_company_84 (ci := 12) (kf := 0) rfl (Nat.le_of_ble_eq_true rfl) (by decide) (by decide) rfl fl_X12_9 (Or.inl rfl) rfl ?_
      refine r_bipush (v := 6) dX12_company_87 (by decide) ?_
      refine r_iald (j := 6) dX12_company_89 rfl (Nat.le_of_ble_eq_true rfl) rfl (by decide) (by decide) ?_
      refine r_iret dX12_company_90 rfl (Nat.le_refl _) ?_
      (try dsimp only [Gs_M])
      have hc := hr.trans (congrArg (fun x => (x, R, P)) c_56)
      refine ⟨_, rfl, (((kq_tp.mono (J' := [55, 58]) (F' := [9, 11, 12, 13, 14, 17]) (by decide) (by decide)).set (by decide)).arrW (by decide) (by decide)).set (by decide), ?_, ?_, ?_, ?_⟩
      · rw [hc, cmX_t, mSet_ne (by decide), mArr_at]
        rfl
      · rw [hc, cmW_t, mSet_ne (by decide), mArr_at]
        rfl
      · rw [mSet_at, pk_un (by decide), mArr_ne (by decide), mSet_at, pk_us]
      · rw [hc, cmN_t, mSet_at, pk_us]
    · have c_56 := bI_0 c_56
      (try dsimp only [Gs_M] at c_56)
      refine r_bipush (v := (-100)) dX12_company_59 (by decide) ?_
      refine r_aload_n dX12_company_61 rfl rfl ?_
      refine r_getI dX12_company_62 (ci := 12) (kf := 12) rfl (Nat.le_of_ble_eq_true rfl) (by decide) (by decide) rfl fl_X12_123 (Or.inl rfl) ?_
      refine r_isub dX12_company_65 ?_
      refine r_iret dX12_company_66 rfl (Nat.le_refl _) ?_
      (try dsimp only [Gs_M])
      have hc := hr.trans (congrArg (fun x => (x, R, P)) (Bool.eq_false_iff.mpr c_56))
      refine ⟨_, rfl, (kq_tp.mono (J' := [55, 58]) (F' := [9, 11, 12, 13, 14, 17]) (by decide) (by decide)).set (by decide), ?_, ?_, ?_, ?_⟩
      · rw [hc, cmX_f]
        rfl
      · rw [hc, cmW_f]
        rfl
      · rw [mSet_at, pk_us]
      · rw [hc, cmN_f]
        rfl
  have lp : ∀ (j_ : Nat) (f : Nat) (is : Bool) (R : Nat → Int32) (P : pT) (he : P.1 ≤ n) (hIR : InvR R) (hf : (if is = true then 201 - P.1 else 0) ≤ f) (hr : cmR (M0 62) (M0 61) n f is R P = cmA M0 n), f < j_ → PW g mX12_company (eN g (Gs M0).1 8 0 0 (eI (fun rx S1 => kq [55, 58] [9, 11, 12, 13, 14, 17] (Gs M0) S1 ∧ rx = cmX (cmA M0 n) ∧ S1.2.2.2 55 = cmW (cmA M0 n) (M0 55) ∧ S1.2.2.2 54 9 = 0 ∧ S1.2.2.2 54 17 = cmN (cmA M0 n) (M0 54 17)))) 30 [some (.ref 54), some (.int (bI (is = true)))] [] (Gs (tpP M0 R P)) 0 0 := by
    intro j_
    induction j_ with
    | zero => intro f is R P he hIR hf hr hj; exact absurd hj (Nat.not_lt_zero _)
    | succ j_ ih =>
      intro f is R P he hIR hf hr hj
      refine r_iload_n dX12_company_30 rfl rfl ?_
      refine r_if_eq (tgt := 50) dX12_company_31 (by decide) (fun c_31 => ?_) (fun c_31 => ?_)
      · have c_31 := bI_0 c_31
        (try dsimp only [Gs_M] at c_31)
        exact PW.subL (J is R P (hr.symm.trans (cmR_e (fun z => c_31 z.1) f))) (by repeat' first | exact True.intro | refine And.intro rfl ?_)
      · have c_31 := bI_n c_31
        (try dsimp only [Gs_M] at c_31)
        refine r_aload_n dX12_company_34 rfl rfl ?_
        refine r_getI dX12_company_35 (ci := 12) (kf := 13) rfl (Nat.le_of_ble_eq_true rfl) (by decide) (by decide) rfl fl_X12_129 (Or.inl rfl) ?_
        rw [tp_t]
        refine r_iconst (v := (-1)) dX12_company_38 (by decide) ?_
        refine r_icmp_eq (tgt := 50) dX12_company_39 (by decide) (fun c_39 => ?_) (fun c_39 => ?_)
        · (try dsimp only [Gs_M] at c_39)
          exact PW.subL (J is R P (hr.symm.trans (cmR_e (fun z => z.2 c_39) f))) (by repeat' first | exact True.intro | refine And.intro rfl ?_)
        · (try dsimp only [Gs_M] at c_39)
          obtain ⟨p, hp8, ep⟩ := hIR.1
          obtain ⟨f, rfl⟩ : ∃ f1, f = f1 + 1 := ⟨f - 1, by rw [if_pos c_31] at hf; omega⟩
          refine r_aload_n dX12_company_42 rfl rfl ?_
          refine r_callV_dI (ci := 12) dX12_company_43 (s_X12_readsOne g hn en he hp8 ep) mf_X12_readsOne mi_X12_readsOne se_X12_X12_X12_readsOne ml_X12_166 rfl rfl (Nat.le_of_ble_eq_true rfl) rfl (by decide) rfl (Nat.le_of_ble_eq_true rfl) ⟨(Nat.le_of_ble_eq_true rfl), (Nat.le_of_ble_eq_true rfl)⟩ ⟨(Nat.le_of_ble_eq_true rfl), (Nat.le_of_ble_eq_true rfl)⟩ ?_
          refine r_istore_n dX12_company_46 rfl (by decide) ?_
          refine r_goto (tgt := 30) dX12_company_47 (by decide) ?_
          have ha := oneF_adv (L := M0 62) (b := M0 61) (R := R) hn he
          have hl := oneF_le (L := M0 62) (b := M0 61) (R := R) he
          exact PW.subL (ih f _ _ _ hl (oneF_inv hIR) (by
            split
            · next z => rw [if_pos c_31] at hf; have := ha z; omega
            · omega) ((cmR_y c_31 c_39).symm.trans hr) (by omega)) (by repeat' first | exact True.intro | refine And.intro rfl ?_)
  refine r_aload_n dX12_company_0 rfl rfl ?_
  refine r_iconst (v := 0) dX12_company_1 (by decide) ?_
  refine r_putI dX12_company_2 (ci := 12) (kf := 11) rfl (Nat.le_of_ble_eq_true rfl) (by decide) (by decide) rfl fl_X12_120 (Or.inl rfl) rfl rfl rfl ?_
  refine r_aload_n dX12_company_5 rfl rfl ?_
  refine r_getR (q := 58) dX12_company_6 (ci := 12) (kf := 3) rfl (Nat.le_of_ble_eq_true rfl) (by decide) (by decide) rfl fl_X12_19 (Or.inl rfl) rfl ?_
  refine r_callS_dV dX12_company_9 (s_X12_begins g rfl (Nat.le_of_ble_eq_true rfl)) mf_X12_begins mt_X12_begins ml_X12_59 rfl rfl (Nat.le_of_ble_eq_true rfl) ⟨(Nat.le_of_ble_eq_true rfl), (Nat.le_of_ble_eq_true rfl)⟩ ⟨(Nat.le_of_ble_eq_true rfl), (Nat.le_of_ble_eq_true rfl)⟩ ?_
  refine r_aload_n dX12_company_12 rfl rfl ?_
  refine r_getR (q := 58) dX12_company_13 (ci := 12) (kf := 3) rfl (Nat.le_of_ble_eq_true rfl) (by decide) (by decide) rfl fl_X12_19 (Or.inl rfl) rfl ?_
  refine r_iconst (v := 5) dX12_company_16 (by decide) ?_
  refine r_aload_n dX12_company_17 rfl rfl ?_
  refine r_getR (q := 55) dX12_company_18 (ci := 12) (kf := 0) rfl (Nat.le_of_ble_eq_true rfl) (by decide) (by decide) rfl fl_X12_9 (Or.inl rfl) rfl ?_
  refine r_iconst (v := 5) dX12_company_21 (by decide) ?_
  refine r_iald (j := 5) dX12_company_22 rfl (Nat.le_of_ble_eq_true rfl) rfl (by decide) (by decide) ?_
  refine r_iast (j := 5) dX12_company_23 rfl (Nat.le_of_ble_eq_true rfl) rfl (by decide) (by decide) ?_
  rw [tp_begin]
  rw [show (mSet (Gs M0) 54 11 0).2.2.2 58 = M0 58 from rfl, show (mArr (mSet (Gs M0) 54 11 0) 58 (begR (M0 58))).2.2.2 55 5 = M0 55 5 from rfl]
  refine r_aload_n dX12_company_24 rfl rfl ?_
  refine r_callV_dV (ci := 12) dX12_company_25 (s_X12_next g hn en 0 (uN (M0 54 12)) (M0 54 13) (M0 54 14) (Nat.zero_le _)) mf_X12_next mi_X12_next se_X12_X12_X12_next ml_X12_145 rfl rfl (Nat.le_of_ble_eq_true rfl) rfl (by decide) rfl (Nat.le_of_ble_eq_true rfl) ⟨(Nat.le_of_ble_eq_true rfl), (Nat.le_of_ble_eq_true rfl)⟩ ⟨(Nat.le_of_ble_eq_true rfl), (Nat.le_of_ble_eq_true rfl)⟩ ?_
  refine r_iconst (v := 1) dX12_company_28 (by decide) ?_
  refine r_istore_n dX12_company_29 rfl (by decide) ?_
  exact PW.subL (lp 203 202 true _ _ (nextR_le (Nat.zero_le _)).1 begR_inv (by rw [if_pos rfl]; omega) rfl (by omega)) (by repeat' first | exact True.intro | refine And.intro rfl ?_)
