/-! ===== the class's company and the reference's: what is asked is the same ===== -/
def EQ (V W : Nat → Int32) : Prop := eqv V W ∧ V 7 = W 7
theorem EQ.h6 {V W : Nat → Int32} (h : EQ V W) : V 6 = W 6 := h.1.1 6 (by omega) (by omega)
theorem EQ.lo {V W : Nat → Int32} (h : EQ V W) {i : Nat} (hi : i < 16) : V i = W i := by
  by_cases e : i = 7
  · rw [e]; exact h.2
  · exact h.1.1 i hi e
theorem inPl_k {W : Nat → Int32} (hI : InvR W) {x : Int32} (h : 0 ≤ x ∧ x ≤ W 6 - 1) : cl x < plR W := by
  obtain ⟨h8, hpl⟩ := hI.pl
  obtain ⟨k, hk, rfl⟩ := rngP h h8 hpl
  rw [cl_nI (by omega)]; exact hk
theorem p7_k {x : Int32} (h : 0 ≤ x ∧ x ≤ 7) : cl x < 8 := by
  obtain ⟨j, hj, rfl⟩ := rng (x := x) 7 (by decide) h
  rw [cl_nI (by omega)]; omega
theorem p3_k {x : Int32} (h : 0 ≤ x ∧ x ≤ 3) : cl x < 4 := by
  obtain ⟨j, hj, rfl⟩ := rng (x := x) 3 (by decide) h
  rw [cl_nI (by omega)]; omega
theorem EQ.up {V W : Nat → Int32} (h : EQ V W) {i : Nat} {x : Int32} (h6 : i ≠ 6) : EQ (upd V i x) (upd W i x) := ⟨h.1.up h6, by
  unfold upd
  by_cases e : 7 = i
  · rw [if_pos e, if_pos e]
  · rw [if_neg e, if_neg e]; exact h.2⟩
theorem ite_c {P : Prop} [Decidable P] {α : Type} {a b c : α} (h : P → a = b) : (if P then a else c) = (if P then b else c) := by
  by_cases p : P
  · rw [if_pos p, if_pos p, h p]
  · rw [if_neg p, if_neg p]
theorem iteE {P : Prop} [Decidable P] {a b a' b' : Nat → Int32} (h : P → EQ a b) (h2 : EQ a' b') : EQ (if P then a else a') (if P then b else b') := by
  by_cases p : P
  · rw [if_pos p, if_pos p]; exact h p
  · rw [if_neg p, if_neg p]; exact h2
variable {V W : Nat → Int32}
theorem EQ.q_setX (h : EQ V W) {l v : Int32} : setX V l v = setX W l v := ite_c fun c => h.lo (by have := p3_k c.1; omega)
theorem EQ.q_lawX (h : EQ V W) {l : Int32} : lawX V l = lawX W l := ite_c fun c => h.lo (by have := p3_k c; omega)
theorem EQ.q_weighX (h : EQ V W) {p v : Int32} : weighX V p v = weighX W p v := ite_c fun c => h.lo (by have := p7_k c.1; omega)
theorem EQ.q_setW (h : EQ V W) {l v : Int32} : EQ (setW V l v) (setW W l v) := iteE (fun c => h.up (by have := p3_k c.1; omega)) h
theorem EQ.q_weighW (h : EQ V W) {p v : Int32} : EQ (weighW V p v) (weighW W p v) := iteE (fun c => h.up (by have := p7_k c.1; omega)) h
theorem EQ.q_knowsX (h : EQ V W) (hI : InvR W) {x p : Int32} : knowsX V x p = knowsX W x p := by
  unfold knowsX
  rw [h.h6]
  exact ite_c fun c => h.1.2 _ (inPl_k hI c.1) _ (by have := p7_k c.2; omega)
theorem EQ.q_mindX (h : EQ V W) (hI : InvR W) {x p : Int32} : mindX V x p = mindX W x p := by
  unfold mindX
  rw [h.h6]
  exact ite_c fun c => h.1.2 _ (inPl_k hI c.1) 0 (by omega)
theorem EQ.q_sickX (h : EQ V W) (hI : InvR W) {x p : Int32} : sickX V x p = sickX W x p := by
  unfold sickX
  rw [h.h6]
  exact ite_c fun c => h.1.2 _ (inPl_k hI c.1) 2 (by omega)
theorem EQ.q_teachX (h : EQ V W) (hI : InvR W) {x p v : Int32} : teachX V x p v = teachX W x p v := by
  unfold teachX
  rw [h.h6]
  exact ite_c fun c => h.1.2 _ (inPl_k hI c.1) _ (by have := p7_k c.2.1; omega)
theorem EQ.q_mindW (h : EQ V W) {x p : Int32} : EQ (mindW V x p) (mindW W x p) := by
  unfold mindW
  rw [h.h6]
  exact iteE (fun c => h.up (by omega)) h
theorem EQ.q_sickW (h : EQ V W) {x p : Int32} : EQ (sickW V x p) (sickW W x p) := by
  unfold sickW
  rw [h.h6]
  exact iteE (fun c => h.up (by omega)) h
theorem EQ.q_teachW (h : EQ V W) {x p v : Int32} : EQ (teachW V x p v) (teachW W x p v) := by
  unfold teachW
  rw [h.h6]
  exact iteE (fun c => h.up (by omega)) h
theorem EQ.q_doesX (h : EQ V W) (hI : InvR W) {x p w : Int32} : doesX V x p w = doesX W x p w := by
  unfold doesX
  rw [h.h6]
  refine ite_c fun c => ?_
  rw [h.1.good (inPl_k hI c.1) (p7_k c.2.1), h.1.learns (inPl_k hI c.1), h.1.forgets (inPl_k hI c.1)]
theorem EQ.q_ofX (h : EQ V W) (hI : InvR W) {x w : Int32} : ofX V x w = ofX W x w := by
  unfold ofX
  rw [h.h6, h.1.ro hI]
  refine ite_c fun c => ?_
  rw [h.1.2 _ (inPl_k hI c.1) (cl w) (by have := p3_k c.2; omega)]
theorem EQ.q_partX (h : EQ V W) (hI : InvR W) {p w : Int32} : partX V p w = partX W p w := by
  unfold partX
  rw [h.1.cs hI, h.1.owners _ (by rw [h.1.pl]; exact Nat.le_refl _), h.1.pl]
  refine ite_c fun c => ?_
  rw [h.lo (i := 8 + cl p) (by have := p7_k c.1; omega)]
theorem EQ.q_playerX (h : EQ V W) {p w : Int32} : playerX V p w = playerX W p w := by
  unfold playerX
  rw [h.h6]
theorem EQ.q_stateX (h : EQ V W) (hI : InvR W) {w : Int32} : stateX V w = stateX W w := by
  unfold stateX
  rw [h.lo (i := 0) (by omega), h.2, h.1.sB hI, h.1.cs hI, h.1.ro hI, h.1.ill _ (by rw [h.1.pl]; exact Nat.le_refl _), h.1.mov _ (by rw [h.1.pl]; exact Nat.le_refl _), h.1.pl]
theorem EQ.q_hopeX (h : EQ V W) {n w : Int32} : hopeX V n w = hopeX W n w := by
  unfold hopeX
  rw [h.lo (i := 4) (by omega)]
theorem EQ.q_oddsX (h : EQ V W) {n k w : Int32} : oddsX V n k w = oddsX W n k w := by
  unfold oddsX
  rw [h.lo (i := 4) (by omega)]
theorem EQ.q_knewX (h : EQ V W) (hI : InvR W) {x p n : Int32} : knewX V x p n = knewX W x p n := by
  unfold knewX
  rw [h.h6]
  exact ite_c fun c => (h.1.go hI _).2 _ (by rw [goR_pl]; exact inPl_k hI c.1) _ (by have := p7_k c.2.1; omega)
theorem EQ.q_earnedX (h : EQ V W) (hI : InvR W) {n : Int32} : earnedX V n = earnedX W n := ite_c fun c => h.1.go7 h.2 hI _
theorem EQ.q_houseR (h : EQ V W) (hI : InvR W) : houseR V = houseR W := by
  unfold houseR
  have e : (fun n => decide (cutR (cst (goR V n)) 8 = 0)) = fun n => decide (cutR (cst (goR W n)) 8 = 0) := funext fun n => by rw [(h.1.go hI n).cs (goR_inv hI n)]
  rw [e]
theorem EQ.q_playsX (h : EQ V W) (hI : InvR W) {x p : Int32} : playsX V x p = playsX W x p := by
  unfold playsX playsR
  rw [h.h6]
  have e : (fun n => decide (rol (goR V n) (cl x) = nI (cl p))) = fun n => decide (rol (goR W n) (cl x) = nI (cl p)) := funext fun n => by rw [(h.1.go hI n).ro (goR_inv hI n)]
  rw [e]
