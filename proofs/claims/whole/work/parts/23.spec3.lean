/-! ===== what is asked, as functions of a company's row ===== -/
abbrev cl (x : Int32) : Nat := x.toNatClampNeg
theorem rng {x hi : Int32} (n : Nat) (hM : hi.toInt = (n : Int)) (h : 0 ≤ x ∧ x ≤ hi) : ∃ j, j ≤ n ∧ x = nI j := nI_of2 hM (Int32.not_lt.mpr h.1) h.2
theorem rngP {x w : Int32} {pl : Nat} (h : 0 ≤ x ∧ x ≤ w - 1) (hp : pl ≤ 8) (hw : w = nI pl) : ∃ j, j < pl ∧ x = nI j := by
  obtain ⟨h1, h2⟩ := h
  obtain ⟨j, hj, e⟩ := nI_of (Int32.not_lt.mpr h1)
  refine ⟨j, ?_, e⟩
  have e1 : w - 1 = nI pl - nI 1 := by rw [hw]; rfl
  rw [e, e1, Int32.le_iff_toInt_le, nI_toInt hj, pk_sub_toInt (by omega) (by omega)] at h2
  omega
theorem inPl_of {w : Int32} {pl j : Nat} (hp : pl ≤ 8) (hw : w = nI pl) (hj : j < pl) : 0 ≤ nI j ∧ nI j ≤ w - 1 := by
  refine ⟨nI_pos' (by omega), ?_⟩
  rw [hw, show nI pl - 1 = nI (pl - 1) from pk_sub (a := pl) (b := 1) (by omega)]
  exact nI_le (by omega) (by omega)
def setOk (law v : Int32) : Prop := (0 ≤ law ∧ law ≤ 3) ∧ 0 ≤ v ∧ v ≤ (if 2 ≤ law then 99 else 9)
def setX (W : Nat → Int32) (law v : Int32) : Int32 := if (0 ≤ law ∧ law ≤ 3) ∧ 0 ≤ v ∧ v ≤ (if 2 ≤ law then 99 else 9) then W (1 + cl law) else -1
def setW (W : Nat → Int32) (law v : Int32) : Nat → Int32 := if (0 ≤ law ∧ law ≤ 3) ∧ 0 ≤ v ∧ v ≤ (if 2 ≤ law then 99 else 9) then upd W (1 + cl law) v else W
def lawX (W : Nat → Int32) (law : Int32) : Int32 := if 0 ≤ law ∧ law ≤ 3 then W (1 + cl law) else -1
def weighX (W : Nat → Int32) (p v : Int32) : Int32 := if (0 ≤ p ∧ p ≤ 7) ∧ 0 ≤ v ∧ v ≤ 9 then W (8 + cl p) else -1
def weighW (W : Nat → Int32) (p v : Int32) : Nat → Int32 := if (0 ≤ p ∧ p ≤ 7) ∧ 0 ≤ v ∧ v ≤ 9 then upd W (8 + cl p) v else W
def partX (W : Nat → Int32) (p w : Int32) : Int32 := if (0 ≤ p ∧ p ≤ 7) ∧ 0 ≤ w ∧ w ≤ 2 then (if w = 0 then W (8 + cl p) else if w = 1 then cst W (cl p) + 1 else ownersR W p (plR W)) else -1
def inPl (W : Nat → Int32) (x : Int32) : Prop := 0 ≤ x ∧ x ≤ W 6 - 1
def plyNew (W : Nat → Int32) (k p : Nat) (kind : Int32) : Nat → Int32 := fun i =>
  if i = 6 then W 6 + 1 else if i = 16 + 11 * k + (3 + p) then 60 else if i = 16 + 11 * k + 1 then nI p else if i = 16 + 11 * k + 0 then kind else if 16 + 11 * k ≤ i ∧ i < 16 + 11 * k + 11 then 0 else W i
def playerX (W : Nat → Int32) (kind p : Int32) : Int32 := if (0 ≤ kind ∧ kind ≤ 5) ∧ 0 ≤ p ∧ p ≤ 7 then (if W 6 = 8 then -2 else W 6) else -1
def playerW (W : Nat → Int32) (kind p : Int32) : Nat → Int32 := if (0 ≤ kind ∧ kind ≤ 5) ∧ 0 ≤ p ∧ p ≤ 7 then (if W 6 = 8 then W else plyNew W (plR W) (cl p) kind) else W
def ofX (W : Nat → Int32) (x w : Int32) : Int32 := if (0 ≤ x ∧ x ≤ W 6 - 1) ∧ 0 ≤ w ∧ w ≤ 3 then (if 3 ≤ w then rol W (cl x) else W (16 + 11 * cl x + cl w)) else -1
def knowsX (W : Nat → Int32) (x p : Int32) : Int32 := if (0 ≤ x ∧ x ≤ W 6 - 1) ∧ 0 ≤ p ∧ p ≤ 7 then W (16 + 11 * cl x + (3 + cl p)) else -1
def doesX (W : Nat → Int32) (x p w : Int32) : Int32 := if (0 ≤ x ∧ x ≤ W 6 - 1) ∧ (0 ≤ p ∧ p ≤ 7) ∧ 0 ≤ w ∧ w ≤ 2 then 1000 + (if w = 0 then goodR W (cl x) (cl p) else if w = 1 then learnsR W (cl x) else forgetsR W (cl x)) else -1
def mindX (W : Nat → Int32) (x k : Int32) : Int32 := if (0 ≤ x ∧ x ≤ W 6 - 1) ∧ 0 ≤ k ∧ k ≤ 5 then W (16 + 11 * cl x + 0) else -1
def mindW (W : Nat → Int32) (x k : Int32) : Nat → Int32 := if (0 ≤ x ∧ x ≤ W 6 - 1) ∧ 0 ≤ k ∧ k ≤ 5 then upd W (16 + 11 * cl x + 0) k else W
def teachX (W : Nat → Int32) (x p v : Int32) : Int32 := if (0 ≤ x ∧ x ≤ W 6 - 1) ∧ (0 ≤ p ∧ p ≤ 7) ∧ 0 ≤ v ∧ v ≤ 99 then W (16 + 11 * cl x + (3 + cl p)) else -1
def teachW (W : Nat → Int32) (x p v : Int32) : Nat → Int32 := if (0 ≤ x ∧ x ≤ W 6 - 1) ∧ (0 ≤ p ∧ p ≤ 7) ∧ 0 ≤ v ∧ v ≤ 99 then upd W (16 + 11 * cl x + (3 + cl p)) v else W
def sickX (W : Nat → Int32) (x v : Int32) : Int32 := if (0 ≤ x ∧ x ≤ W 6 - 1) ∧ 0 ≤ v ∧ v ≤ 9 then W (16 + 11 * cl x + 2) else -1
def sickW (W : Nat → Int32) (x v : Int32) : Nat → Int32 := if (0 ≤ x ∧ x ≤ W 6 - 1) ∧ 0 ≤ v ∧ v ≤ 9 then upd W (16 + 11 * cl x + 2) v else W
def hldW (W : Nat → Int32) : Nat → Int32 := upd W 7 (heldR (W 7) 999999)
def nightsX (W : Nat → Int32) (n : Int32) : Int32 := if 1 ≤ n ∧ n ≤ 60 then heldR (goR W (cl n) 7) 999999 else -1
def nightsW (W : Nat → Int32) (n : Int32) : Nat → Int32 := if 1 ≤ n ∧ n ≤ 60 then hldW (goR W (cl n)) else W
def stateX (W : Nat → Int32) (w : Int32) : Int32 := if w = 0 then W 0 else if w = 1 then W 7 else if w = 2 then showB W else if w = 3 then cutR (cst W) 8 else if w = 4 then illR W (plR W) else if w = 5 then movR W (rol W) (plR W) else -1
def knewX (W : Nat → Int32) (x p n : Int32) : Int32 := if (0 ≤ x ∧ x ≤ W 6 - 1) ∧ (0 ≤ p ∧ p ≤ 7) ∧ 0 ≤ n ∧ n ≤ 60 then goR W (cl n) (16 + 11 * cl x + (3 + cl p)) else -1
def earnedX (W : Nat → Int32) (n : Int32) : Int32 := if 0 ≤ n ∧ n ≤ 60 then goR W (cl n) 7 else -1
theorem cl_nI {n : Nat} (h : n < 2 ^ 31) : cl (nI n) = n := nI_clamp h
