variable {V W : Nat → Int32}
theorem shl_8 : ∀ j : Fin 8, (1 : Int32) <<< (nI j.1 &&& 31) = nI (2 ^ j.1) := by decide +kernel
theorem shl_n {j : Nat} (h : j < 8) : (1 : Int32) <<< (nI j &&& 31) = nI (2 ^ j) := shl_8 ⟨j, h⟩
theorem pow8 {j : Nat} (h : j < 8) : 2 ^ j < 2 ^ 8 := Nat.pow_lt_pow_right (by decide) h
def cntB (P : Nat) : Nat → Nat
  | 0 => 0
  | q + 1 => cntB P q + (if P.testBit q = true then 1 else 0)
theorem pc_cnt : ∀ n : Nat, n < 256 → pcR 8 n = cntB n 8 := by decide +kernel
theorem nI_z0 {n : Nat} (h : n < 2 ^ 31) : nI n = 0 ↔ n = 0 := by
  constructor
  · intro z
    have := congrArg Int32.toInt z
    rw [nI_toInt h] at this
    have e : (0 : Int32).toInt = 0 := rfl
    omega
  · intro z; rw [z]; rfl
theorem own_b {x : Int32} : ∀ n, n ≤ 8 → ∃ O, O < 2 ^ 8 ∧ ownersR W x n = nI O ∧ (O = 0 ↔ ∀ k, k < n → W (16 + 11 * k + 1) ≠ x)
  | 0, _ => ⟨0, by decide, rfl, ⟨fun _ k hk => absurd hk (by omega), fun _ => rfl⟩⟩
  | n + 1, hn => by
    obtain ⟨O, hO, e, hz⟩ := own_b (x := x) n (by omega)
    by_cases c : W (16 + 11 * n + 1) = x
    · refine ⟨O ||| 2 ^ n, Nat.or_lt_two_pow hO (pow8 (by omega)), ?_, ⟨fun z => ?_, fun z => absurd c (z n (by omega))⟩⟩
      · rw [ownersR, if_pos c, e, shl_n (by omega)]
        exact nI_or (by omega) (by have := pow8 (j := n) (by omega); omega)
      · have h1 : (O ||| 2 ^ n).testBit n = true := by rw [Nat.testBit_or, Nat.testBit_two_pow_self, Bool.or_true]
        rw [z, Nat.zero_testBit] at h1
        exact absurd h1 (by decide)
    · refine ⟨O, hO, ?_, ?_⟩
      · rw [ownersR, if_neg c, e]
        exact Int32.or_zero
      · rw [hz]
        constructor
        · intro z k hk
          by_cases y : k = n
          · rw [y]; exact c
          · exact z k (by omega)
        · exact fun z k hk => z k (by omega)
theorem pwo_b (hI : InvR W) : ∀ n, n ≤ 8 → ∃ P, P < 2 ^ 8 ∧ pwoR W n = nI P ∧ ∀ p, p < 8 → (P.testBit p = true ↔ ∃ k, k < n ∧ W (16 + 11 * k + 1) = nI p)
  | 0, _ => ⟨0, by decide, rfl, fun p _ => ⟨fun z => by rw [Nat.zero_testBit] at z; exact absurd z (by decide), fun ⟨k, hk, _⟩ => absurd hk (by omega)⟩⟩
  | n + 1, hn => by
    obtain ⟨P, hP, e, hz⟩ := pwo_b hI n (by omega)
    obtain ⟨o, ho, eo⟩ := hI.2 n (by omega)
    refine ⟨P ||| 2 ^ o, Nat.or_lt_two_pow hP (pow8 ho), ?_, fun p hp => ?_⟩
    · rw [pwoR, e, eo, shl_n ho]
      exact nI_or (by omega) (by have := pow8 ho; omega)
    · rw [Nat.testBit_or, Bool.or_eq_true, hz p hp, Nat.testBit_two_pow, decide_eq_true_iff]
      constructor
      · rintro (⟨k, hk, ek⟩ | y)
        · exact ⟨k, by omega, ek⟩
        · exact ⟨n, by omega, by rw [eo, y]⟩
      · rintro ⟨k, hk, ek⟩
        by_cases y : k = n
        · right
          rw [y, eo] at ek
          have h1 := congrArg Int32.toInt ek
          rw [nI_toInt (by omega), nI_toInt (by omega)] at h1
          omega
        · exact Or.inl ⟨k, by omega, ek⟩
theorem owc_e (hI : InvR W) : nI (pcR 8 (cl (pwoR W (plR W)))) = owcR W 8 := by
  have h8 := hI.pl.1
  obtain ⟨P, hP, e, hz⟩ := pwo_b hI (plR W) h8
  have H : ∀ q, q ≤ 8 → owcR W q = nI (cntB P q) := by
    intro q
    induction q with
    | zero => intro _; rfl
    | succ q ih =>
      intro hq
      obtain ⟨O, hO, eO, hOz⟩ := own_b (W := W) (x := nI q) (plR W) h8
      have h1 : ownersR W (nI q) (plR W) = 0 ↔ ¬ P.testBit q = true := by
        rw [eO, nI_z0 (by omega), hOz, hz q (by omega)]
        exact ⟨fun a ⟨k, hk, ek⟩ => a k hk ek, fun a k hk ek => a ⟨k, hk, ek⟩⟩
      rw [owcR, cntB, ih (by omega)]
      by_cases c : P.testBit q = true
      · rw [if_neg (fun z => h1.mp z c), if_pos c]
        exact nI_1 _
      · rw [if_pos (h1.mpr c), if_neg c]
        exact Int32.add_zero _
  rw [H 8 (by omega), e, cl_nI (by omega), pc_cnt P hP]
theorem pwo_e (h : EQ V W) : ∀ n, n ≤ plR W → pwoR V n = pwoR W n
  | 0, _ => rfl
  | n + 1, hn => by rw [pwoR, pwoR, pwo_e h n (by omega), h.1.2 n (by omega) 1 (by omega)]
theorem EQ.q_many (h : EQ V W) (hI : InvR W) {m tp tr w : Int32} : manC V m tp tr w = manyX W m tp tr w := by
  unfold manC manyX
  rw [h.h6, h.1.pl, h.1.ill _ (Nat.le_refl _), h.1.cs hI, pwo_e h _ (Nat.le_refl _), owc_e hI]
