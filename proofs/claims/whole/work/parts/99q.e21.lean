/-! ===== the start: what the launch gives ===== -/
theorem arr_int {args : Array Value} {s : State} (h : (Cond.arrayClass .int).before args s = true) : ∃ c, ArrOfT s c .int ∧ va_RA s c .int := by
  obtain ⟨c, k, comp, h1, h2, h3⟩ := Cond.arrayClass_spec h
  exact ⟨c, fun n z => ⟨(fun _ e => by cases e), k, h2, comp, h3⟩, h1⟩
theorem arr_byte {args : Array Value} {s : State} (h : (Cond.arrayClass .byte).before args s = true) : ∃ c, ArrOfT s c .byte ∧ va_RA s c .byte := by
  obtain ⟨c, k, comp, h1, h2, h3⟩ := Cond.arrayClass_spec h
  exact ⟨c, fun n z => ⟨(fun _ e => by cases e), k, h2, comp, h3⟩, h1⟩
theorem arr_char {args : Array Value} {s : State} (h : (Cond.arrayClass .char).before args s = true) : ∃ c, ArrOfT s c .char ∧ va_RA s c .char := by
  obtain ⟨c, k, comp, h1, h2, h3⟩ := Cond.arrayClass_spec h
  exact ⟨c, fun n z => ⟨(fun _ e => by cases e), k, h2, comp, h3⟩, h1⟩
theorem arr_obj {args : Array Value} {s : State} {C : String} (h : (Cond.arrayOver (.object C)).before args s = true) : ∃ c, ArrOfT s c (.object C) ∧ va_RA s c (.object C) := by
  obtain ⟨comp, c, k, h1, -, h2, h3, h4⟩ := Cond.arrayOver_spec h
  exact ⟨c, fun n z => ⟨(fun _ e => by cases e), k, h2, comp, h3⟩, k, comp, h2, h3, h1, h4⟩
theorem nw_all {c : Nat} (h : c < 13) : Cond.instantiable (clC c) (clN c) ∈ gT := by
  rcases (by omega : c = 0 ∨ c = 1 ∨ c = 2 ∨ c = 3 ∨ c = 4 ∨ c = 5 ∨ c = 6 ∨ c = 7 ∨ c = 8 ∨ c = 9 ∨ c = 10 ∨ c = 11 ∨ c = 12) with rfl | rfl | rfl | rfl | rfl | rfl | rfl | rfl | rfl | rfl | rfl | rfl | rfl
  · exact nw_X0
  · exact nw_X1
  · exact nw_X2
  · exact nw_X3
  · exact nw_X4
  · exact nw_X5
  · exact nw_X6
  · exact nw_X7
  · exact nw_X8
  · exact nw_X9
  · exact nw_X10
  · exact nw_X11
  · exact nw_X12
theorem start_K {args : Array Value} {s : State} (hts : ∀ w ∈ lw_tbl, w.before args s = true) : ∃ (D : va_G) (cA : Nat → ClassId), va_K D vwCl (tysOf cA) s := by
  have hg : ∀ w ∈ gT, w.before args s = true := fun w hw => hts w (List.mem_filter.mp hw).1
  have h0 : ∀ c : Nat, ∃ q : ClassId × (Nat → Nat), c < 13 → u_Kn s (clC c) (clT c) (clN c) q.1 q.2 := by
    intro c
    by_cases hc : c < 13
    · obtain ⟨cC, iS, h⟩ := u_known (n := clN c) hg (cl_in hc) (hg _ (nw_all hc))
      exact ⟨(cC, iS), fun _ => h⟩
    · obtain ⟨c0, -⟩ := arr_int (args := args) (s := s) (hts _ (tb_m1 (List.mem_of_getElem? (i := 103) rfl)))
      exact ⟨(c0, fun _ => 0), fun z => absurd z hc⟩
  obtain ⟨D, hD⟩ := Classical.axiomOfChoice h0
  obtain ⟨a0, i0⟩ := arr_int (args := args) (s := s) (hts _ (tb_m1 (List.mem_of_getElem? (i := 103) rfl)))
  obtain ⟨a1, i1⟩ := arr_byte (args := args) (s := s) (hts _ (tb_m1 (List.mem_of_getElem? (i := 137) rfl)))
  obtain ⟨a2, i2⟩ := arr_char (args := args) (s := s) (hts _ (tb_m5 (List.mem_of_getElem? (i := 89) rfl)))
  obtain ⟨a3, i3⟩ := arr_obj (args := args) (s := s) (C := "TonightCovers$Player") (hts _ (tb_m1 (List.mem_of_getElem? (i := 193) rfl)))
  obtain ⟨a4, i4⟩ := arr_obj (args := args) (s := s) (C := "TonightCovers$Sheet") (hts _ (tb_m1 (List.mem_of_getElem? (i := 139) rfl)))
  refine ⟨(fun c => (D c).1, fun c => (D c).2), fun k => if k = 0 then a0 else if k = 1 then a1 else if k = 2 then a2 else if k = 3 then a3 else a4, fun c q h => ?_, fun k q h => ?_⟩
  · have hc : c < 13 := (List.getElem?_eq_some_iff.mp h).1
    rw [cl_some hc] at h
    cases h
    exact hD c hc
  · match k, h with
    | 0, h => cases h; exact i0
    | 1, h => cases h; exact i1
    | 2, h => cases h; exact i2
    | 3, h => cases h; exact i3
    | 4, h => cases h; exact i4
    | k + 5, h => cases h
abbrev tmS (k : Nat) : Term := .static "TonightCovers" (kN k) "[I"
abbrev tmT (i : Nat) : Term := .string "TonightCovers$Tape" (100 + 2 * i)
abbrev vlT (i : Nat) : Term := .field (tmT i) "java/lang/String" "value" "[B"
theorem g_arr : ∀ k, k < 3 → Cond.arrayOf (tmS k) .int ∈ (flatC (Jvm.Cond.and given_1 narrow_1)) := by decide +kernel
theorem g_len : ∀ k, k < 3 → Cond.eq (.length (tmS k)) (.int (Int32.ofNat (kL k).length)) ∈ (flatC (Jvm.Cond.and given_1 narrow_1)) := by decide +kernel
theorem g_el : ∀ k, k < 3 → ∀ j, j < (kL k).length → Cond.eq (.elem (tmS k) (.int (Int32.ofNat j))) (.int (kF k j)) ∈ (flatC (Jvm.Cond.and given_1 narrow_1)) := by decide +kernel
theorem g_ex : ∀ i, i < 14 → Cond.exactly (tmT i) "java/lang/String" ∈ (flatC (Jvm.Cond.and given_1 narrow_1)) := by decide +kernel
theorem g_co : ∀ i, i < 14 → Cond.eq (.field (tmT i) "java/lang/String" "coder" "B") (.int 0) ∈ (flatC (Jvm.Cond.and given_1 narrow_1)) := by decide +kernel
theorem g_ar : ∀ i, i < 14 → Cond.arrayOf (vlT i) .byte ∈ (flatC (Jvm.Cond.and given_1 narrow_1)) := by decide +kernel
theorem g_le : ∀ i, i < 14 → Cond.eq (.length (vlT i)) (.int (Int32.ofNat (sLn.getD i 0))) ∈ (flatC (Jvm.Cond.and given_1 narrow_1)) := by decide +kernel
theorem g_by : ∀ i, i < 14 → ∀ j, j < sLn.getD i 0 → Cond.eq (.elem (vlT i) (.int (Int32.ofNat j))) (.int ((sBy.getD i []).getD j 0)) ∈ (flatC (Jvm.Cond.and given_1 narrow_1)) := by decide +kernel
theorem ne_of {b j : Nat} {f : Nat → Cond} (h : ((flatC (Jvm.Cond.and given_1 narrow_1)).drop b).take j = (List.range j).map f) {i : Nat} (hi : i < j) : f i ∈ (flatC (Jvm.Cond.and given_1 narrow_1)) := List.mem_of_mem_drop (List.mem_of_mem_take (by rw [h]; exact List.mem_map.mpr ⟨i, List.mem_range.mpr hi, rfl⟩))
theorem g_ne1 : ((flatC (Jvm.Cond.and given_1 narrow_1)).drop 72).take 1 = (List.range 1).map (fun i => Cond.not (Cond.eq (tmT i) (tmT 1))) := by decide +kernel
theorem g_ne2 : ((flatC (Jvm.Cond.and given_1 narrow_1)).drop 81).take 2 = (List.range 2).map (fun i => Cond.not (Cond.eq (tmT i) (tmT 2))) := by decide +kernel
theorem g_ne3 : ((flatC (Jvm.Cond.and given_1 narrow_1)).drop 93).take 3 = (List.range 3).map (fun i => Cond.not (Cond.eq (tmT i) (tmT 3))) := by decide +kernel
theorem g_ne4 : ((flatC (Jvm.Cond.and given_1 narrow_1)).drop 108).take 4 = (List.range 4).map (fun i => Cond.not (Cond.eq (tmT i) (tmT 4))) := by decide +kernel
theorem g_ne5 : ((flatC (Jvm.Cond.and given_1 narrow_1)).drop 120).take 5 = (List.range 5).map (fun i => Cond.not (Cond.eq (tmT i) (tmT 5))) := by decide +kernel
theorem g_ne6 : ((flatC (Jvm.Cond.and given_1 narrow_1)).drop 133).take 6 = (List.range 6).map (fun i => Cond.not (Cond.eq (tmT i) (tmT 6))) := by decide +kernel
theorem g_ne7 : ((flatC (Jvm.Cond.and given_1 narrow_1)).drop 147).take 7 = (List.range 7).map (fun i => Cond.not (Cond.eq (tmT i) (tmT 7))) := by decide +kernel
theorem g_ne8 : ((flatC (Jvm.Cond.and given_1 narrow_1)).drop 163).take 8 = (List.range 8).map (fun i => Cond.not (Cond.eq (tmT i) (tmT 8))) := by decide +kernel
theorem g_ne9 : ((flatC (Jvm.Cond.and given_1 narrow_1)).drop 181).take 9 = (List.range 9).map (fun i => Cond.not (Cond.eq (tmT i) (tmT 9))) := by decide +kernel
theorem g_ne10 : ((flatC (Jvm.Cond.and given_1 narrow_1)).drop 198).take 10 = (List.range 10).map (fun i => Cond.not (Cond.eq (tmT i) (tmT 10))) := by decide +kernel
theorem g_ne11 : ((flatC (Jvm.Cond.and given_1 narrow_1)).drop 214).take 11 = (List.range 11).map (fun i => Cond.not (Cond.eq (tmT i) (tmT 11))) := by decide +kernel
theorem g_ne12 : ((flatC (Jvm.Cond.and given_1 narrow_1)).drop 234).take 12 = (List.range 12).map (fun i => Cond.not (Cond.eq (tmT i) (tmT 12))) := by decide +kernel
theorem g_ne13 : ((flatC (Jvm.Cond.and given_1 narrow_1)).drop 253).take 13 = (List.range 13).map (fun i => Cond.not (Cond.eq (tmT i) (tmT 13))) := by decide +kernel
theorem g_nej {i j : Nat} (hj : j < 14) (hi : i < j) : Cond.not (Cond.eq (tmT i) (tmT j)) ∈ (flatC (Jvm.Cond.and given_1 narrow_1)) := by
  rcases (by omega : j = 0 ∨ j = 1 ∨ j = 2 ∨ j = 3 ∨ j = 4 ∨ j = 5 ∨ j = 6 ∨ j = 7 ∨ j = 8 ∨ j = 9 ∨ j = 10 ∨ j = 11 ∨ j = 12 ∨ j = 13) with rfl | rfl | rfl | rfl | rfl | rfl | rfl | rfl | rfl | rfl | rfl | rfl | rfl | rfl
  · exact absurd hi (Nat.not_lt_zero i)
  · exact ne_of g_ne1 hi
  · exact ne_of g_ne2 hi
  · exact ne_of g_ne3 hi
  · exact ne_of g_ne4 hi
  · exact ne_of g_ne5 hi
  · exact ne_of g_ne6 hi
  · exact ne_of g_ne7 hi
  · exact ne_of g_ne8 hi
  · exact ne_of g_ne9 hi
  · exact ne_of g_ne10 hi
  · exact ne_of g_ne11 hi
  · exact ne_of g_ne12 hi
  · exact ne_of g_ne13 hi
theorem g_ne : ∀ i j, i < 14 → j < 14 → i ≠ j → Cond.not (Cond.eq (tmT i) (tmT j)) ∈ (flatC (Jvm.Cond.and given_1 narrow_1)) ∨ Cond.not (Cond.eq (tmT j) (tmT i)) ∈ (flatC (Jvm.Cond.and given_1 narrow_1)) := fun i j hi hj hn => by
  rcases Nat.lt_or_gt_of_ne hn with q | q
  · exact Or.inl (g_nej hj q)
  · exact Or.inr (g_nej hi q)
theorem g_cs : Cond.eq (.static "java/lang/String" "COMPACT_STRINGS" "Z") (.int 1) ∈ (flatC (Jvm.Cond.and given_1 narrow_1)) := by decide +kernel
theorem g_pc : Cond.isRef (.static "jdk/internal/util/Preconditions" "SIOOBE_FORMATTER" "Ljava/util/function/BiFunction;") ∈ (flatC (Jvm.Cond.and given_1 narrow_1)) := by decide +kernel
theorem w_sr : ∀ k, k < 14 → tables_1_2[119 + k]? = some (Cond.stringRef "TonightCovers$Tape" (100 + 2 * k) (sTx.getD k "")) := by decide +kernel
