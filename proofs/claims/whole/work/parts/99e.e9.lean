theorem fd_rg (e : Int64) (k : Nat) : rg (fdB e k) 255 := by
  unfold fdB
  generalize e >>> ((nI (8 * k)).toInt64 &&& 63) = x
  refine ⟨(x.toBitVec &&& 255#64).toNat, ?_, ?_⟩
  · rw [BitVec.toNat_and]
    exact Nat.and_le_right
  · apply Int32.toBitVec_inj.mp
    rw [nI_tb, Int64.toBitVec_toInt32, BitVec.signExtend_eq_setWidth_of_le _ (by decide)]
    apply BitVec.eq_of_toNat_eq
    rw [BitVec.toNat_setWidth, BitVec.toNat_ofNat]
    rfl
def BR (b b' : Nat → Int32) : Prop := ∀ i, b i = sx (b' i) ∧ rg (b' i) 255
theorem BR.up {b b' : Nat → Int32} (h : BR b b') {j : Nat} {x y : Int32} (e : x = sx y) (hy : rg y 255) : BR (upd b j x) (upd b' j y) := fun i => by
  unfold upd
  by_cases c : i = j
  · rw [if_pos c, if_pos c]; exact ⟨e, hy⟩
  · rw [if_neg c, if_neg c]; exact h i
theorem BR.fA {b b' : Nat → Int32} (h : BR b b') {t : Nat} {e : Int64} : ∀ k, k ≤ 8 → BR (fcA b t e k) (fdA b' t e k)
  | 0, _ => h
  | k + 1, hk => (BR.fA h k (by omega)).up (by_e e (by omega)) (fd_rg e k)
theorem BR.feed {b b' : Nat → Int32} (h : BR b b') {t : Nat} {e : Int64} {n : Int32} : BR (fcT b t e n) (feedT b' t e n) := by
  unfold fcT feedT
  by_cases c : 1 ≤ n ∧ n ≤ 8
  · obtain ⟨j, hj, rfl⟩ := rng (x := n) 8 (by decide) ⟨Int32.le_trans (by decide) c.1, c.2⟩
    rw [if_pos c, if_pos c, cl_nI (by omega)]
    by_cases d : t + j ≤ 200
    · rw [if_pos d, if_pos d]; exact h.fA j hj
    · rw [if_neg d, if_neg d]; exact h
  · rw [if_neg c, if_neg c]; exact h
theorem BR_0 : BR (fun _ => 0) (fun _ => 0) := fun _ => ⟨rfl, ⟨0, by omega, rfl⟩⟩
theorem feedN_le {t : Nat} (ht : t ≤ 200) {n : Int32} : feedN t n ≤ 200 := by
  unfold feedN
  split
  · split
    · assumption
    · exact ht
  · exact ht
