/-! ===== the text: company() on both sides ===== -/
theorem wtR_at {f : Nat → Int32} {j : Nat} : ∀ n, j < n → wtR f n (8 + j) = 3
  | 0, h => absurd h (Nat.not_lt_zero j)
  | n + 1, h => by
    rw [wtR]
    rcases Nat.lt_or_ge j n with q | q
    · rw [pk_un (by omega)]
      exact wtR_at n q
    · rw [show n = j by omega, pk_us]
def bgv (i : Nat) : Int32 := if i = 1 then 3 else if i = 2 then 4 else if i = 3 then 10 else if i = 4 then 20 else if 8 ≤ i then 3 else 0
theorem lawsU {f : Nat → Int32} {i : Nat} (h1 : 1 ≤ i) (h4 : i ≤ 4) : upd (upd (upd (upd f 1 3) 2 4) 3 10) 4 20 i = bgv i := by
  rcases (by omega : i = 1 ∨ i = 2 ∨ i = 3 ∨ i = 4) with rfl | rfl | rfl | rfl <;> rfl
theorem begC_lo {V : Nat → Int32} {i : Nat} (h : i < 16) (h5 : i ≠ 5) : begC V i = bgv i := by
  rw [begC_e]
  by_cases c7 : i = 7
  · subst c7; rw [pk_us]; rfl
  · rw [pk_un c7]
    by_cases c0 : i = 0
    · subst c0; rw [pk_us]; rfl
    · rw [pk_un c0]
      by_cases c6 : i = 6
      · subst c6; rw [pk_us]; rfl
      · rw [pk_un c6]
        by_cases c8 : 8 ≤ i
        · obtain ⟨j, rfl⟩ : ∃ j, i = 8 + j := ⟨i - 8, by omega⟩
          rw [wtR_at 8 (by omega)]
          unfold bgv
          rw [if_neg (by omega), if_neg (by omega), if_neg (by omega), if_neg (by omega), if_pos c8]
        · rw [wtR_ne 8 (fun j hj => by omega)]
          exact lawsU (by omega) (by omega)
theorem begR_lo {F : Nat → Int32} {i : Nat} (h : i < 16) : begR F i = bgv i := by
  by_cases c8 : 8 ≤ i
  · obtain ⟨j, rfl⟩ : ∃ j, i = 8 + j := ⟨i - 8, by omega⟩
    unfold begR
    rw [wtR_at 8 (by omega)]
    unfold bgv
    rw [if_neg (by omega), if_neg (by omega), if_neg (by omega), if_neg (by omega), if_pos c8]
  · by_cases c : 1 ≤ i ∧ i ≤ 4
    · unfold begR
      rw [wtR_ne 8 (fun j hj => by omega)]
      exact lawsU c.1 c.2
    · rw [begR_0 (by omega) (by omega) (by omega)]
      unfold bgv
      rw [if_neg (by omega), if_neg (by omega), if_neg (by omega), if_neg (by omega), if_neg c8]
theorem bgv_rg : rg (bgv 1) 9 ∧ rg (bgv 2) 9 ∧ rg (bgv 3) 99 ∧ rg (bgv 4) 99 := ⟨⟨3, by omega, rfl⟩, ⟨4, by omega, rfl⟩, ⟨10, by omega, rfl⟩, ⟨20, by omega, rfl⟩⟩
theorem bgv_w {p : Nat} (hp : p < 8) : rg (bgv (8 + p)) 9 := by
  unfold bgv
  rw [if_neg (by omega), if_neg (by omega), if_neg (by omega), if_neg (by omega), if_pos (by omega)]
  exact ⟨3, by omega, rfl⟩
theorem begin_RLt {V F : Nat → Int32} {z : Int32} (hR : InvR V) (hN : InvN V) : RLt z (begC V) (upd (begR F) 5 z) := by
  have e6 : upd (begR F) 5 z 6 = 0 := by rw [pk_un (by omega), begR_lo (by omega)]; rfl
  have ep : plR (upd (begR F) 5 z) = 0 := by unfold plR; rw [e6]; rfl
  have hz : ∀ i, i < 104 → 16 ≤ i → upd (begR F) 5 z i = 0 := fun i a b => by rw [pk_un (by omega)]; exact begR_0 a (by omega) (by omega)
  refine ⟨⟨⟨fun i hi h7 => ?_, fun k hk => absurd hk (by rw [ep]; omega)⟩, ?_⟩, ⟨⟨begC_inv hR, ⟨?_, fun p hp => ?_, fun k hk => ?_⟩, rg0 ?_⟩, ?_⟩, ⟨start_CI _ ?_ ?_ ?_ ?_ e6 ?_ (fun p hp => ?_) hz, ?_⟩, fun k _ hk f hf => hz _ (by omega) (by omega)⟩
  · by_cases c : i = 5
    · rw [c, pk_us, pk_us]
    · rw [pk_un c, pk_un c, begC_lo hi c, begR_lo hi]
  · rw [pk_un (by omega), pk_un (by omega), begC_lo (by omega) (by omega), begR_lo (by omega)]
  · rw [begC_lo (by omega) (by omega), begC_lo (by omega) (by omega), begC_lo (by omega) (by omega), begC_lo (by omega) (by omega)]
    exact bgv_rg
  · rw [begC_lo (by omega) (by omega)]
    exact bgv_w hp
  · obtain ⟨q1, q2, q3⟩ := hN.2.2 k hk
    refine ⟨?_, ?_, fun p hp => ?_⟩
    · rw [begC_ne (by omega)]; exact q1
    · rw [begC_ne (by omega)]; exact q2
    · rw [begC_ne (by omega)]; exact q3 p hp
  · rw [begC_lo (by omega) (by omega)]; rfl
  · rw [begC_lo (by omega) (by omega)]; rfl
  · rw [pk_un (by omega), begR_lo (by omega)]; exact bgv_rg.1
  · rw [pk_un (by omega), begR_lo (by omega)]; exact bgv_rg.2.1
  · rw [pk_un (by omega), begR_lo (by omega)]; exact bgv_rg.2.2.1
  · rw [pk_un (by omega), begR_lo (by omega)]; exact bgv_rg.2.2.2
  · rw [pk_un (by omega), begR_lo (by omega)]; rfl
  · rw [pk_un (by omega), begR_lo (by omega)]; exact bgv_w hp
  · rw [pk_un (by omega), begR_lo (by omega)]; rfl
theorem ovr_lo {R W : Nat → Int32} {x : Nat} (h : x < 104) : ovr R W x = R x := by rw [ovr, if_pos h]
theorem EQ.ovrE {X R W : Nat → Int32} (h : EQ X R) (hI : InvR R) : EQ X (ovr R W) := by
  have hp := hI.pl.1
  have e6 : plR (ovr R W) = plR R := by unfold plR; rw [ovr_lo (by omega)]
  refine ⟨⟨fun i a b => ?_, fun k hk f hf => ?_⟩, ?_⟩
  · rw [ovr_lo (by omega)]; exact h.1.1 i a b
  · rw [e6] at hk
    rw [ovr_lo (by omega)]
    exact h.1.2 k hk f hf
  · rw [ovr_lo (by omega)]; exact h.2
theorem CI.cg {V W : Nat → Int32} (h : CI W) (e : ∀ x, x < 104 → V x = W x) : CI V := by
  obtain ⟨⟨h1, h2⟩, ⟨⟨n1, n2, n3, n4⟩, hw, hk⟩, h7⟩ := h
  refine ⟨⟨by rw [e _ (by omega)]; exact h1, fun k hk8 => by rw [e _ (by omega)]; exact h2 k hk8⟩, ⟨⟨by rw [e _ (by omega)]; exact n1, by rw [e _ (by omega)]; exact n2, by rw [e _ (by omega)]; exact n3, by rw [e _ (by omega)]; exact n4⟩, fun p hp => by rw [e _ (by omega)]; exact hw p hp, fun k hk8 => ?_⟩, by rw [e _ (by omega)]; exact h7⟩
  obtain ⟨q1, q2, q3⟩ := hk k hk8
  exact ⟨by rw [e _ (by omega)]; exact q1, by rw [e _ (by omega)]; exact q2, fun p hp => by rw [e _ (by omega)]; exact q3 p hp⟩
theorem CI.ovrC {R W : Nat → Int32} (h : CI R) : CI (ovr R W) := h.cg (fun _ hx => ovr_lo hx)
/-- company(): the answers, and what it leaves -/
theorem comp_E {S : pS} {M : Nat → Nat → Int32} {n : Nat} (hn : n ≤ 200) (hB : BR (S.2.2.2 30) (M 61)) (hL : ∀ x, x < 112 → M 62 x = ltr x) (hR : InvR (vw S 10)) (hN : InvN (vw S 10)) (hE : EQ (vw S 1) (M 55)) (hC : CI (vw S 1)) (hD : CI (M 55)) :
    compX (telR S n) (vw S 1) = cmX (cmA M n) ∧ EQ (compW (telR S n) (vw S 1)) (cmW (cmA M n) (M 55)) ∧ CI (compW (telR S n) (vw S 1)) ∧ CI (cmW (cmA M n) (M 55)) ∧ (∀ r, compN (telR S n) r = cmN (cmA M n) r) ∧ ∀ z, InvR (upd (telR S n).1 5 z) ∧ InvN (upd (telR S n).1 5 z) := by
  have ez : vw S 1 5 = M 55 5 := hE.lo (by omega)
  have hb := begin_RLt (F := M 58) (z := M 55 5) hR hN
  have a0 : blC (S.2.2.2 30) n 0 ≤ n := blC_le (Nat.zero_le _)
  have ic : IC (telR S n).1 := tel_IC 200 _ _ _ hb.2.1 a0
  have q := tel_e (L := M 62) (z := M 55 5) hn hB hL n _ 200 202 (nextR (M 62) (M 61) n (0, uN (M 54 12), M 54 13, M 54 14)) _ _ (by omega) hn (by omega) a0 (by rw [blC_e hB]; exact TK_next (P := (0, uN (M 54 12), M 54 13, M 54 14))) hb
  have q : ((telR S n).2.2 = -1 ∧ (cmA M n).1 = true ∧ RLt (M 55 5) (telR S n).1 (cmA M n).2.1) ∨ ((telR S n).2.2 ≠ -1 ∧ (cmA M n).1 = false ∧ (telR S n).2.2 = nI (cmA M n).2.2.2.1) := q
  generalize telR S n = T at q ic ⊢
  generalize cmA M n = r at q ⊢
  have hT : ∀ z, InvR (upd T.1 5 z) ∧ InvN (upd T.1 5 z) := fun z => ⟨(ic.1.c_u5).1, (ic.1.c_u5).2.1⟩
  rcases q with ⟨q1, q2, q3⟩ | ⟨q1, q2, q3⟩
  · unfold compX compW compN cmX cmW cmN
    rw [if_pos q1, if_pos q1, if_pos q2, if_pos q2, ez]
    refine ⟨q3.h6, q3.1.ovrE q3.2.2.1.1.1, ic.1.c_u5, q3.2.2.1.1.ovrC, fun x => ?_, hT⟩
    rw [if_pos q1, if_pos q2]
  · have q2' : ¬ r.1 = true := by rw [q2]; decide
    unfold compX compW compN cmX cmW cmN
    rw [if_neg q1, if_neg q1, if_neg q2', if_neg q2']
    refine ⟨by rw [q3], hE, hC, hD, fun x => ?_, hT⟩
    rw [if_neg q1, if_neg q2']
