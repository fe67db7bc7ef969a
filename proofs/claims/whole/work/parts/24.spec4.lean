/-! ===== what is tried ===== -/
theorem Gs_M {M : Nat → Nat → Int32} : (Gs M).2.2.2 = M := rfl
theorem kp_to57 {S : pS} (h : sOk S) {f : Nat → Int32} : kp [57] S (mArr S 57 f) := ⟨h, fun q a b => mArr_ne (fun z => a (z ▸ List.mem_cons_self)), fun f _ => by rw [mArr_ne (by decide)]⟩
theorem kp_back {S S2 : pS} {W L : Nat → Int32} (h55 : S.2.2.2 55 = W) (hl : S.2.2.2 57 = ovr W L) (hk : kp [55, 59, 60] S S2) (hv : ∀ x, 104 ≤ x → S2.2.2.2 55 x = W x) : kp [59, 60] S (mArr S2 55 (ovr (S2.2.2.2 57) (S2.2.2.2 55))) := by
  have e57 : S2.2.2.2 57 = ovr W L := (hk.2.1 57 (by decide) (by decide)).trans hl
  refine ⟨hk.1, fun q a b => ?_, fun f hf => ?_⟩
  · by_cases e : q = 55
    · subst e
      rw [mArr_at, e57, ovr_back hv, h55]
    · rw [mArr_ne e]
      exact hk.2.1 q (by simp at a ⊢; omega) b
  · rw [mArr_ne (by decide)]
    exact hk.2.2 f hf
def fwR (ok : Nat → Bool) : Nat → Int32
  | 0 => -3
  | n + 1 => if fwR ok n = -3 then (if ok n = true then nI n else -3) else fwR ok n
theorem fwR_stay {ok : Nat → Bool} {n : Nat} (h : fwR ok n ≠ -3) : ∀ m, fwR ok (n + m) = fwR ok n
  | 0 => rfl
  | m + 1 => by rw [← Nat.add_assoc, fwR, fwR_stay h m, if_neg h]
theorem fwR_y {ok : Nat → Bool} {n : Nat} (h : fwR ok n = -3) (h2 : ok n = true) : nI n = fwR ok (n + 1) := by rw [fwR, if_pos h, if_pos h2]
theorem fwR_n {ok : Nat → Bool} {n : Nat} (h : fwR ok n = -3) (h2 : ¬ ok n = true) : -3 = fwR ok (n + 1) := by rw [fwR, if_pos h, if_neg h2]
def playsR (W : Nat → Int32) (k p : Nat) : Int32 := fwR (fun n => decide (rol (goR W n) k = nI p)) 61
def houseR (W : Nat → Int32) : Int32 := fwR (fun n => decide (cutR (cst (goR W n)) 8 = 0)) 61
def playsX (W : Nat → Int32) (x p : Int32) : Int32 := if (0 ≤ x ∧ x ≤ W 6 - 1) ∧ 0 ≤ p ∧ p ≤ 7 then playsR W (cl x) (cl p) else -1
/-- the greatest of what is tried, the least that is so -/
def mxR (v : Nat → Int32) (b0 m0 : Int32) : Nat → Int32 × Int32
  | 0 => (b0, m0)
  | j + 1 => if (mxR v b0 m0 j).2 < v j then (nI j, v j) else mxR v b0 m0 j
theorem mxR_n {v : Nat → Int32} {b0 m0 b m : Int32} {j : Nat} (hb : b = (mxR v b0 m0 j).1) (hm : m = (mxR v b0 m0 j).2) (h : v j ≤ m) : b = (mxR v b0 m0 (j + 1)).1 ∧ m = (mxR v b0 m0 (j + 1)).2 := by
  rw [mxR, if_neg (Int32.not_lt.mpr (hm ▸ h))]
  exact ⟨hb, hm⟩
theorem mxR_y {v : Nat → Int32} {b0 m0 m : Int32} {j : Nat} (hm : m = (mxR v b0 m0 j).2) (h : ¬ v j ≤ m) : nI j = (mxR v b0 m0 (j + 1)).1 ∧ v j = (mxR v b0 m0 (j + 1)).2 := by
  rw [mxR, if_pos (Int32.not_le.mp (hm ▸ h))]
  exact ⟨rfl, rfl⟩
def kindX (W : Nat → Int32) (x n : Int32) : Int32 := if (0 ≤ x ∧ x ≤ W 6 - 1) ∧ 1 ≤ n ∧ n ≤ 30 then (mxR (fun kd => goR (upd W (16 + 11 * cl x + 0) (nI kd)) (cl n) 7) 0 (-1) 6).1 else -1
def learnerX (W : Nat → Int32) (p n : Int32) : Int32 := if (0 ≤ p ∧ p ≤ 7) ∧ 1 ≤ n ∧ n ≤ 30 then (mxR (fun k => goR (upd W (16 + 11 * k + (3 + cl p)) 99) (cl n) 7) (-3) (goR W (cl n) 7) (plR W)).1 else -1
def worstR (W : Nat → Int32) : Nat → Int32 × Int32
  | 0 => (-3, showB W)
  | k + 1 => if W (16 + 11 * k + 2) = 0 ∧ showB (upd W (16 + 11 * k + 2) 1) < (worstR W k).2 then (nI k, showB (upd W (16 + 11 * k + 2) 1)) else worstR W k
def enoughX (W : Nat → Int32) (x p : Int32) : Int32 := if (0 ≤ x ∧ x ≤ W 6 - 1) ∧ 0 ≤ p ∧ p ≤ 7 then fwR (fun v => decide (rol (upd W (16 + 11 * cl x + (3 + cl p)) (nI v)) (cl x) = p)) 100 else -1
def spR (W : Nat → Int32) : Nat → Int32 × Int32
  | 0 => (0, W 5)
  | i + 1 => ((spR W i).1 + (if showB (thrR (upd W 5 (spR W i).2)) < showB W then 1 else 0), thrR (upd W 5 (spR W i).2) 5)
def spoiltX (W : Nat → Int32) (n : Int32) : Int32 := if 1 ≤ n ∧ n ≤ 30 then (spR W (cl n)).1 else -1
def welR (W : Nat → Int32) (set : Int32) : Nat → Nat → Int32
  | 0 => W
  | k + 1 => upd (welR W set k) (16 + 11 * k + 2) (if (set >>> (nI k &&& 31)) &&& 1 = 1 then 0 else 1)
def fewR (W : Nat → Int32) (v : Int32) : Nat → Int32
  | 0 => -3
  | s + 1 => if (nI s &&& illR W (plR W) = 0 ∧ (fewR W v s < 0 ∨ pcR 8 s < pcR 8 (cl (fewR W v s)))) ∧ v ≤ showB (welR W (nI s) (plR W)) then nI s else fewR W v s
def fewestX (W : Nat → Int32) (v : Int32) : Int32 := if 0 ≤ v ∧ v ≤ 9999 then fewR W v (2 ^ plR W) else -1
theorem upd_inv {W : Nat → Int32} (h : InvR W) {i : Nat} {v : Int32} (h6 : i ≠ 6) (ho : ∀ k, k < 8 → i ≠ 16 + 11 * k + 1) : InvR (upd W i v) := by
  refine ⟨?_, fun k hk => ?_⟩
  · rw [pk_un (Ne.symm h6)]; exact h.1
  · rw [pk_un (Ne.symm (ho k hk))]; exact h.2 k hk
theorem upd_pl {W : Nat → Int32} {i : Nat} {v : Int32} (h6 : i ≠ 6) : plR (upd W i v) = plR W := by unfold plR; rw [pk_un (Ne.symm h6)]
theorem upd_self {W : Nat → Int32} {i : Nat} : upd W i (W i) = W := by
  funext j
  by_cases e : j = i
  · rw [e, pk_us]
  · rw [pk_un e]
theorem upd_twice {W : Nat → Int32} {i : Nat} {x y : Int32} : upd (upd W i x) i y = upd W i y := by
  funext j
  by_cases e : j = i
  · rw [e, pk_us, pk_us]
  · rw [pk_un e, pk_un e, pk_un e]
theorem upd_hi {W : Nat → Int32} {i x : Nat} {v : Int32} (h : 104 ≤ x) (hi : i < 104) : upd W i v x = W x := pk_un (by omega)
theorem kp_fix {S S1 : pS} (h : kp [55, 57, 59, 60] S S1) (e : S1.2.2.2 55 = S.2.2.2 55) : kp [57, 59, 60] S S1 := ⟨h.1, fun q a b => by
  by_cases z : q = 55
  · rw [z]; exact e
  · exact h.2.1 q (by simp at a ⊢; omega) b, h.2.2⟩
theorem fwR_end {ok : Nat → Bool} {n m : Nat} {f : Int32} (hf : f = fwR ok n) (h : ¬ f = -3) (hn : n ≤ m) : f = fwR ok m := by
  have h2 := fwR_stay (ok := ok) (n := n) (hf ▸ h) (m - n)
  rw [Nat.add_sub_cancel' hn] at h2
  rw [h2]; exact hf
theorem mxR_abs {x m : Int32} {P : Prop} (h : x ≤ m) (h2 : ¬ x ≤ m) : P := absurd h h2
