/-! ===== pure states ===== -/
/-- how many cells; what each is: an array (its type's number, its length) or an object of a class; its references; its numbers -/
abbrev pS : Type := Nat × (Nat → (Nat × Nat) ⊕ Nat) × (Nat → Nat → Option Nat) × (Nat → Nat → Int32)
/-- launch, layout, array classes, addresses -/
abbrev pG : Type := Launch × va_G × (Nat → ClassId) × (Nat → Nat)
abbrev gad (g : pG) : Nat → Nat := g.2.2.2
def vr (ad : Nat → Nat) : Value → Value
  | .ref i => .ref (ad i)
  | v => v
theorem vr_cat (ad : Nat → Nat) (v : Value) : (vr ad v).category = v.category := by cases v <;> rfl
theorem vr_int {ad : Nat → Nat} {x : Int32} : vr ad (.int x) = .int x := rfl
def mSet (S : pS) (i k : Nat) (v : Int32) : pS := (S.1, S.2.1, S.2.2.1, fun j => if j = i then upd (S.2.2.2 j) k v else S.2.2.2 j)
def mArr (S : pS) (i : Nat) (f : Nat → Int32) : pS := (S.1, S.2.1, S.2.2.1, fun j => if j = i then f else S.2.2.2 j)
def rSet (S : pS) (i k : Nat) (v : Option Nat) : pS := (S.1, S.2.1, (fun j => if j = i then va_up (S.2.2.1 j) k v else S.2.2.1 j), S.2.2.2)
def mNew (S : pS) (e : (Nat × Nat) ⊕ Nat) : pS := (S.1 + 1, (fun j => if j = S.1 then e else S.2.1 j), (fun j => if j = S.1 then (fun _ => none) else S.2.2.1 j), (fun j => if j = S.1 then (fun _ => 0) else S.2.2.2 j))
def fdOf (ad : Nat → Nat) (S : pS) (i ci k : Nat) : Value := if isRf (clTy ci k) = true then va_rf ((S.2.2.1 i k).map ad) else .int (S.2.2.2 i k)
def fsOf (ad : Nat → Nat) (S : pS) (i ci : Nat) : List Value := (List.range (clN ci)).map (fdOf ad S i ci)
def cellOf (cA : Nat → ClassId) (ad : Nat → Nat) (S : pS) (i : Nat) : va_E := match S.2.1 i with
  | .inl q => if q.1 < 3 then .inl (cA q.1, q.2, .inl (S.2.2.2 i)) else .inl (cA q.1, q.2, .inr (.inr (.inr (.inr (fun j => (S.2.2.1 i j).map ad)))))
  | .inr ci => .inr (ci, fsOf ad S i ci)
def wsOf (cA : Nat → ClassId) (ad : Nat → Nat) (S : pS) : va_W := (List.range S.1).map (fun i => (ad i, cellOf cA ad S i))
def tysOf (cA : Nat → ClassId) : List (ClassId × FieldType) := [(cA 0, .int), (cA 1, .byte), (cA 2, .char), (cA 3, .object "TonightCovers$Player"), (cA 4, .object "TonightCovers$Sheet")]
def adOk (ad : Nat → Nat) : Prop := ∀ i, i < 1000 → ad i = ad 0 + i
/-- where our cells are -/
def pA (g : pG) : Nat → Prop := fun q => gad g 0 ≤ q
/-- the world -/
def Wd (g : pG) (S : pS) (U : State) (H : Heap) : Prop := adOk (gad g) ∧ S.1 ≤ 900 ∧ va_P g.2.1 vwCl (wsOf g.2.2.1 (gad g) S) H ∧ va_K g.2.1 vwCl (tysOf g.2.2.1) U
theorem wsOf_get {cA : Nat → ClassId} {ad : Nat → Nat} {S : pS} {i : Nat} (h : i < S.1) : (wsOf cA ad S)[i]? = some (ad i, cellOf cA ad S i) := by
  unfold wsOf
  rw [List.getElem?_map, List.getElem?_range h]
  rfl
theorem wsOf_len {cA : Nat → ClassId} {ad : Nat → Nat} {S : pS} : (wsOf cA ad S).length = S.1 := by simp [wsOf]
theorem wsOf_set {cA : Nat → ClassId} {ad : Nat → Nat} {S S' : pS} {i : Nat} {e : va_E} (hn : S'.1 = S.1) (he : cellOf cA ad S' i = e) (ho : ∀ j, j ≠ i → cellOf cA ad S' j = cellOf cA ad S j) : (wsOf cA ad S).set i (ad i, e) = wsOf cA ad S' := by
  apply List.ext_getElem?
  intro j
  by_cases hj : j < S.1
  · rw [wsOf_get (S := S') (by omega)]
    by_cases hji : j = i
    · subst hji
      rw [List.getElem?_set_self (by rw [wsOf_len]; exact hj), he]
    · rw [List.getElem?_set_ne (Ne.symm hji), wsOf_get hj, ho j hji]
  · rw [List.getElem?_eq_none (by rw [List.length_set, wsOf_len]; omega), List.getElem?_eq_none (by rw [wsOf_len]; omega)]
theorem wsOf_push {cA : Nat → ClassId} {ad : Nat → Nat} {S S' : pS} {e : va_E} (hn : S'.1 = S.1 + 1) (he : cellOf cA ad S' S.1 = e) (ho : ∀ j, j < S.1 → cellOf cA ad S' j = cellOf cA ad S j) : wsOf cA ad S ++ [(ad S.1, e)] = wsOf cA ad S' := by
  apply List.ext_getElem?
  intro j
  by_cases hj : j < S.1
  · rw [List.getElem?_append_left (by rw [wsOf_len]; exact hj), wsOf_get hj, wsOf_get (by omega), ho j hj]
  · rw [List.getElem?_append_right (by rw [wsOf_len]; omega), wsOf_len]
    by_cases hz : j = S.1
    · subst hz
      rw [Nat.sub_self, wsOf_get (by omega), he]
      rfl
    · rw [List.getElem?_eq_none (by simp; omega), List.getElem?_eq_none (by rw [wsOf_len]; omega)]
theorem ad_inj {ad : Nat → Nat} (h : adOk ad) {i j : Nat} (hi : i < 1000) (hj : j < 1000) (e : ad i = ad j) : i = j := by
  rw [h i hi, h j hj] at e
  omega
theorem wsOf_D {g : pG} {S : pS} (h : adOk (gad g)) (hn : S.1 ≤ 900) : va_D (pA g) (wsOf g.2.2.1 (gad g) S) := by
  refine ⟨fun i j p q hi hj e => ?_, fun k q hk => ?_⟩
  · have li := (List.getElem?_eq_some_iff.mp hi).1
    have lj := (List.getElem?_eq_some_iff.mp hj).1
    rw [wsOf_len] at li lj
    rw [wsOf_get li] at hi
    rw [wsOf_get lj] at hj
    cases hi
    cases hj
    exact ad_inj h (by omega) (by omega) e
  · have lk := (List.getElem?_eq_some_iff.mp hk).1
    rw [wsOf_len] at lk
    rw [wsOf_get lk] at hk
    cases hk
    show gad g 0 ≤ gad g k
    rw [h k (by omega)]
    omega
theorem cellOf_a {cA : Nat → ClassId} {ad : Nat → Nat} {S : pS} {i t n : Nat} (h : S.2.1 i = .inl (t, n)) (ht : t < 3) : cellOf cA ad S i = .inl (cA t, n, .inl (S.2.2.2 i)) := by
  unfold cellOf
  rw [h]
  exact if_pos ht
theorem cellOf_q {cA : Nat → ClassId} {ad : Nat → Nat} {S : pS} {i t n : Nat} (h : S.2.1 i = .inl (t, n)) (ht : ¬ t < 3) : cellOf cA ad S i = .inl (cA t, n, .inr (.inr (.inr (.inr (fun j => (S.2.2.1 i j).map ad))))) := by
  unfold cellOf
  rw [h]
  exact if_neg ht
theorem cellOf_o {cA : Nat → ClassId} {ad : Nat → Nat} {S : pS} {i ci : Nat} (h : S.2.1 i = .inr ci) : cellOf cA ad S i = .inr (ci, fsOf ad S i ci) := by
  unfold cellOf
  rw [h]
theorem cellOf_cong {cA : Nat → ClassId} {ad : Nat → Nat} {S S' : pS} {i : Nat} (h1 : S'.2.1 i = S.2.1 i) (h2 : S'.2.2.1 i = S.2.2.1 i) (h3 : S'.2.2.2 i = S.2.2.2 i) : cellOf cA ad S' i = cellOf cA ad S i := by
  unfold cellOf
  rw [h1]
  cases S.2.1 i with
  | inl q => simp only [h2, h3]
  | inr ci =>
    simp only [fsOf]
    congr 3
    funext k
    unfold fdOf
    rw [h2, h3]
theorem fsOf_get {ad : Nat → Nat} {S : pS} {i ci k : Nat} (h : k < clN ci) : (fsOf ad S i ci)[k]? = some (fdOf ad S i ci k) := by
  unfold fsOf
  rw [List.getElem?_map, List.getElem?_range h]
  rfl
theorem fsOf_len {ad : Nat → Nat} {S : pS} {i ci : Nat} : (fsOf ad S i ci).length = clN ci := by simp [fsOf]
theorem fsOf_set {ad : Nat → Nat} {S S' : pS} {i ci k : Nat} {v : Value} (hv : fdOf ad S' i ci k = v) (ho : ∀ j, j ≠ k → fdOf ad S' i ci j = fdOf ad S i ci j) : (fsOf ad S i ci).set k v = fsOf ad S' i ci := by
  apply List.ext_getElem?
  intro j
  by_cases hj : j < clN ci
  · rw [fsOf_get (S := S') hj]
    by_cases hjk : j = k
    · subst hjk
      rw [List.getElem?_set_self (by rw [fsOf_len]; exact hj), hv]
    · rw [List.getElem?_set_ne (Ne.symm hjk), fsOf_get hj, ho j hjk]
  · rw [List.getElem?_eq_none (by rw [List.length_set, fsOf_len]; omega), List.getElem?_eq_none (by rw [fsOf_len]; omega)]
theorem Wd.moved {g : pG} {S : pS} {u U : State} {H : Heap} (hvm : u.vm.Alike U.vm) (h : Wd g S u H) : Wd g S U H := ⟨h.1, h.2.1, h.2.2.1, h.2.2.2.moved hvm⟩
theorem Wd.D {g : pG} {S : pS} {U : State} {H : Heap} (h : Wd g S U H) : va_D (pA g) (wsOf g.2.2.1 (gad g) S) := wsOf_D h.1 h.2.1
theorem Wd.P {g : pG} {S : pS} {U : State} {H : Heap} (h : Wd g S U H) : va_P g.2.1 vwCl (wsOf g.2.2.1 (gad g) S) H := h.2.2.1
theorem Wd.K {g : pG} {S : pS} {U : State} {H : Heap} (h : Wd g S U H) : va_K g.2.1 vwCl (tysOf g.2.2.1) U := h.2.2.2
/-! the locals -/
abbrev pL : Type := List (Option Value)
def lvF (ad : Nat → Nat) : Nat → pL → List (Nat × Value)
  | _, [] => []
  | i, none :: t => lvF ad (i + 1) t
  | i, some v :: t => (i, vr ad v) :: lvF ad (i + 1) t
theorem lvF_mem {ad : Nat → Nat} {j : Nat} {w : Value} : ∀ (L : pL) (i : Nat), (j, w) ∈ lvF ad i L ↔ i ≤ j ∧ ∃ v, L[j - i]? = some (some v) ∧ w = vr ad v
  | [], i => by simp [lvF]
  | none :: t, i => by
    rw [lvF, lvF_mem t (i + 1)]
    constructor
    · rintro ⟨h1, v, h2, h3⟩
      refine ⟨by omega, v, ?_, h3⟩
      rw [show j - i = (j - (i + 1)) + 1 by omega, List.getElem?_cons_succ]
      exact h2
    · rintro ⟨h1, v, h2, h3⟩
      by_cases e : j = i
      · subst e
        simp at h2
      · refine ⟨by omega, v, ?_, h3⟩
        rw [show j - i = (j - (i + 1)) + 1 by omega, List.getElem?_cons_succ] at h2
        exact h2
  | some u :: t, i => by
    rw [lvF, List.mem_cons, lvF_mem t (i + 1)]
    constructor
    · rintro (h | ⟨h1, v, h2, h3⟩)
      · cases h
        exact ⟨Nat.le_refl _, u, by simp, rfl⟩
      · refine ⟨by omega, v, ?_, h3⟩
        rw [show j - i = (j - (i + 1)) + 1 by omega, List.getElem?_cons_succ]
        exact h2
    · rintro ⟨h1, v, h2, h3⟩
      by_cases e : j = i
      · subst e
        simp at h2
        left
        rw [h3, h2]
      · right
        refine ⟨by omega, v, ?_, h3⟩
        rw [show j - i = (j - (i + 1)) + 1 by omega, List.getElem?_cons_succ] at h2
        exact h2
def lk (ad : Nat → Nat) (ls : Array Slot) (nL : Nat) (L : pL) : Prop := lv_has ls nL (lvF ad 0 L)
theorem lk_at {ad : Nat → Nat} {ls : Array Slot} {nL : Nat} {L : pL} (h : lk ad ls nL L) {i : Nat} {v : Value} (hi : L[i]? = some (some v)) : ls[i]? = some (.val (vr ad v)) :=
  h.2.2 (i, vr ad v) ((lvF_mem L 0).mpr ⟨Nat.zero_le _, v, hi, rfl⟩)
theorem lk_sub {ad : Nat → Nat} {ls : Array Slot} {nL : Nat} {L L' : pL} (h : lk ad ls nL L) (hs : ∀ (i : Nat) (v : Value), L'[i]? = some (some v) → L[i]? = some (some v)) : lk ad ls nL L' := by
  refine ⟨h.1, h.2.1, fun q hq => ?_⟩
  obtain ⟨i, w⟩ := q
  obtain ⟨-, v, h2, rfl⟩ := (lvF_mem L' 0).mp hq
  exact lk_at h (hs i v h2)
def nLong : Option (Option Value) → Bool
  | some (some v) => v.category == 2
  | _ => false
/-- a slot below i is cleared if a long stands there -/
def clrL (L : pL) : Nat → pL
  | 0 => L
  | j + 1 => if nLong L[j]? = true then L.set j none else L
theorem clrL_s (L : pL) (j : Nat) : clrL L (j + 1) = if nLong L[j]? = true then L.set j none else L := rfl
def stL (L : pL) (i : Nat) (v : Value) : pL := (clrL L i).set i (some v)
def stL2 (L : pL) (i : Nat) (v : Value) : pL := ((clrL L i).set i (some v)).set (i + 1) none
theorem clrL_at {L : pL} {i j : Nat} {v : Value} (h : (clrL L i)[j]? = some (some v)) : L[j]? = some (some v) ∧ ¬ (j + 1 = i ∧ v.category = 2) := by
  cases i with
  | zero => exact ⟨h, by omega⟩
  | succ k =>
    rw [clrL_s] at h
    by_cases c : nLong L[k]? = true
    · rw [if_pos c] at h
      by_cases e : j = k
      · subst e
        exfalso
        by_cases hl : j < L.length
        · rw [List.getElem?_set_self hl] at h
          cases h
        · rw [List.getElem?_eq_none (by rw [List.length_set]; omega)] at h
          cases h
      · rw [List.getElem?_set_ne (Ne.symm e)] at h
        exact ⟨h, by omega⟩
    · rw [if_neg c] at h
      refine ⟨h, fun z => ?_⟩
      have e : j = k := by omega
      subst e
      apply c
      rw [h]
      simp [nLong, z.2]
theorem lk_st {ad : Nat → Nat} {nL : Nat} {L : pL} {i : Nat} {v : Value} {ls' : Array Slot} (h : lv_has ls' nL ((i, vr ad v) :: (lvF ad 0 L).filter (fun q => !(q.1 == i) && !(q.1 + 1 == i && q.2.category == 2)))) : lk ad ls' nL (stL L i v) := by
  refine ⟨h.1, h.2.1, fun q hq => h.2.2 q ?_⟩
  obtain ⟨j, w⟩ := q
  obtain ⟨-, u, h2, rfl⟩ := (lvF_mem _ 0).mp hq
  rw [Nat.sub_zero] at h2
  unfold stL at h2
  by_cases e : j = i
  · subst e
    by_cases hl : j < (clrL L j).length
    · rw [List.getElem?_set_self hl] at h2
      cases h2
      exact List.mem_cons_self
    · rw [List.getElem?_eq_none (by rw [List.length_set]; omega)] at h2
      cases h2
  · rw [List.getElem?_set_ne (Ne.symm e)] at h2
    obtain ⟨h3, h4⟩ := clrL_at h2
    refine List.mem_cons_of_mem _ (List.mem_filter.mpr ⟨(lvF_mem L 0).mpr ⟨Nat.zero_le _, u, h3, rfl⟩, ?_⟩)
    have h5 : ¬ (j + 1 = i ∧ (vr ad u).category = 2) := by rw [vr_cat]; exact h4
    simp only [Bool.and_eq_true, Bool.not_eq_true', beq_eq_false_iff_ne, ne_eq, Bool.and_eq_false_iff]
    refine ⟨e, ?_⟩
    by_cases z : j + 1 = i
    · right
      exact fun y => h5 ⟨z, y⟩
    · left
      exact z
theorem lk_st2 {ad : Nat → Nat} {nL : Nat} {L : pL} {i : Nat} {v : Value} {ls' : Array Slot} (h : lv_has ls' nL ((i, vr ad v) :: (lvF ad 0 L).filter (fun q => !(q.1 == i) && (!(q.1 == i + 1) && !(q.1 + 1 == i && q.2.category == 2))))) : lk ad ls' nL (stL2 L i v) := by
  refine ⟨h.1, h.2.1, fun q hq => h.2.2 q ?_⟩
  obtain ⟨j, w⟩ := q
  obtain ⟨-, u, h2, rfl⟩ := (lvF_mem _ 0).mp hq
  rw [Nat.sub_zero] at h2
  unfold stL2 at h2
  by_cases e1 : j = i + 1
  · subst e1
    exfalso
    by_cases hl : i + 1 < ((clrL L i).set i (some v)).length
    · rw [List.getElem?_set_self hl] at h2
      cases h2
    · rw [List.getElem?_eq_none (by rw [List.length_set]; omega)] at h2
      cases h2
  · rw [List.getElem?_set_ne (Ne.symm e1)] at h2
    by_cases e : j = i
    · subst e
      by_cases hl : j < (clrL L j).length
      · rw [List.getElem?_set_self hl] at h2
        cases h2
        exact List.mem_cons_self
      · rw [List.getElem?_eq_none (by rw [List.length_set]; omega)] at h2
        cases h2
    · rw [List.getElem?_set_ne (Ne.symm e)] at h2
      obtain ⟨h3, h4⟩ := clrL_at h2
      refine List.mem_cons_of_mem _ (List.mem_filter.mpr ⟨(lvF_mem L 0).mpr ⟨Nat.zero_le _, u, h3, rfl⟩, ?_⟩)
      have h5 : ¬ (j + 1 = i ∧ (vr ad u).category = 2) := by rw [vr_cat]; exact h4
      simp only [Bool.and_eq_true, Bool.not_eq_true', beq_eq_false_iff_ne, ne_eq, Bool.and_eq_false_iff]
      refine ⟨e, e1, ?_⟩
      by_cases z : j + 1 = i
      · right
        exact fun y => h5 ⟨z, y⟩
      · left
        exact z
