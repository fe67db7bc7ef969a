/-! bytes: what the class keeps signed the reference keeps unsigned -/
def sx (y : Int32) : Int32 := y.toInt8.toInt32
theorem vnB (y : Int32) : vp_nar .byte y = sx y := rfl
theorem sx_sx (y : Int32) : sx (sx y) = sx y := by
  unfold sx
  rw [Int8.toInt8_toInt32]
theorem sx_lo {a b : Int64} (h : ∀ i, i < 8 → a.toBitVec.getLsbD i = b.toBitVec.getLsbD i) : sx a.toInt32 = sx b.toInt32 := by
  unfold sx
  congr 1
  rw [Int64.toInt8_toInt32, Int64.toInt8_toInt32]
  apply Int8.toBitVec_inj.mp
  rw [Int64.toBitVec_toInt8, Int64.toBitVec_toInt8]
  apply BitVec.eq_of_getLsbD_eq
  intro i hi
  rw [BitVec.getLsbD_signExtend, BitVec.getLsbD_signExtend, if_pos (by omega), if_pos (by omega), h i hi]
theorem sh_k : ∀ k : Fin 8, (nI (8 * k.1)).toInt64.toUInt64 &&& Int64.toUInt64 63 = UInt64.ofNat (8 * k.1) ∧ (nI (8 * k.1)).toInt64 &&& 63 = Int64.ofNat (8 * k.1) := by decide +kernel
theorem by_e (e : Int64) {k : Nat} (hk : k < 8) : fcB e k = sx (fdB e k) := by
  unfold fcB fdB
  rw [vnB]
  show sx (sx _) = _
  rw [sx_sx, (sh_k ⟨k, hk⟩).1, (sh_k ⟨k, hk⟩).2]
  refine sx_lo fun i hi => ?_
  dsimp only
  rcases (by omega : k = 0 ∨ k = 1 ∨ k = 2 ∨ k = 3 ∨ k = 4 ∨ k = 5 ∨ k = 6 ∨ k = 7) with rfl | rfl | rfl | rfl | rfl | rfl | rfl | rfl <;> rcases (by omega : i = 0 ∨ i = 1 ∨ i = 2 ∨ i = 3 ∨ i = 4 ∨ i = 5 ∨ i = 6 ∨ i = 7) with rfl | rfl | rfl | rfl | rfl | rfl | rfl | rfl <;> simp [BitVec.getLsbD_sshiftRight, BitVec.getElem_sshiftRight]
